/-! whether ships fit: the class's cache, and the first way is one -/
theorem sol_lt {nC nS nP g o : Nat} {d : Nat → Nat → Nat} {ch set : Nat} (hA : AbOk nC nS nP g o d) (hch : ch < nC) (hset : set < 2 ^ nS) {at9 : Nat → Nat} (h : pSol d g ch set 0 0 at9) {s : Nat} (hb : set.testBit s = true) : at9 s < 24 := by
  have h4 := hA.2.1
  have hs := bit_lt hset hb
  have dC := hA.2.2.2.2.2.1 ch hch
  have dS := hA.2.2.2.2.2.2.2 s hs
  obtain ⟨⟨p1, -⟩, -⟩ := h s (Nat.zero_le _) (by omega) hb
  omega
theorem fits_iff {nC nS nP g o : Nat} {d : Nat → Nat → Nat} {ch set : Nat} (hA : AbOk nC nS nP g o d) (hch : ch < nC) (hset : set < 2 ^ nS) : pFits d g ch set ↔ ∃ at9, pSol d g ch set 0 0 at9 := by
  constructor
  · rintro ⟨at9, h⟩
    refine ⟨at9, fun t _ h2 h3 => ?_⟩
    obtain ⟨a, b, c⟩ := h t h2 h3
    exact ⟨a, fun i j _ _ _ _ => Nat.zero_testBit _, fun u _ h5 h6 => c u h5 h6⟩
  · rintro ⟨at9, h⟩
    refine ⟨at9, fun t h2 h3 => ?_⟩
    obtain ⟨a, b, c⟩ := h t (Nat.zero_le _) h2 h3
    exact ⟨a, sol_lt hA hch hset h h3, fun u h5 h6 => c u (Nat.zero_le _) h5 h6⟩
theorem first_uniq {d : Nat → Nat → Nat} {g ch set : Nat} {at9 at8 : Nat → Nat} (h9 : pFirst d g ch set 0 0 at9) (h8 : pFirst d g ch set 0 0 at8) : ∀ t, t < 4 → set.testBit t = true → at9 t = at8 t := by
  intro t
  induction t using Nat.strongRecOn with
  | ind t ih =>
    intro h1 h2
    have e : ∀ u, 0 ≤ u → u < t → set.testBit u = true → at8 u = at9 u := fun u _ h3 h4 => (ih u h3 (by omega) h4).symm
    have := h9.2 at8 h8.1 t (Nat.zero_le _) h1 h2 e
    have := h8.2 at9 h9.1 t (Nat.zero_le _) h1 h2 (fun u h0 h3 h4 => (e u h0 h3 h4).symm)
    omega
def KeepB (a b : St) : Prop := b.1 = a.1 ∧ ∀ k, k ≠ 11 → k ≠ 12 → k ≠ 13 → b.2 k = a.2 k
theorem KeepB.rf {a : St} : KeepB a a := ⟨rfl, fun _ _ _ _ => rfl⟩
theorem KeepB.tr {a b c : St} (h1 : KeepB a b) (h2 : KeepB b c) : KeepB a c := ⟨h2.1.trans h1.1, fun k p q r => (h2.2 k p q r).trans (h1.2 k p q r)⟩
theorem KeepB.RC {nC nS nP g o pl : Nat} {d : Nat → Nat → Nat} {a b : St} (h : KeepB a b) (hC : RC nC nS nP g o d pl a) : RC nC nS nP g o d pl b := by
  obtain ⟨c0, c1, c2, c3, c8, c7, cR⟩ := hC
  refine ⟨by rw [h.1]; exact c0, by rw [h.1]; exact c1, by rw [h.1]; exact c2, by rw [h.1]; exact c3, by rw [h.1]; exact c8, by rw [h.1]; exact c7, fun k hk i => ?_⟩
  rw [h.2 k (by omega) (by omega) (by omega)]
  exact cR k hk i
def Ans (P : Prop) (r : Int32) : Prop := (r = 1 ∧ P) ∨ (r = 0 ∧ ¬ P)
theorem Ans.uniq {P : Prop} {r r' : Int32} (h : Ans P r) (h' : Ans P r') : r = r' := by
  rcases h with ⟨rfl, h⟩ | ⟨rfl, h⟩ <;> rcases h' with ⟨rfl, h'⟩ | ⟨rfl, h'⟩
  · rfl
  · exact absurd h h'
  · exact absurd h' h
  · rfl
theorem Ans.iff {P Q : Prop} {r : Int32} (h : Ans P r) (e : P ↔ Q) : Ans Q r := by
  rcases h with ⟨rfl, h⟩ | ⟨rfl, h⟩
  · exact Or.inl ⟨rfl, e.mp h⟩
  · exact Or.inr ⟨rfl, fun q => h (e.mpr q)⟩
theorem canLay_eq {nC nS nP g o pl : Nat} {d : Nat → Nat → Nat} {ch set : Nat} {c : St} (hA : AbOk nC nS nP g o d) (hch : ch < nC) (hset : set < 2 ^ nS) (hC : RC nC nS nP g o d pl c) (hK : Cache nC nS d c) : ∃ r c', f_Be_canLay (nI ch) (nI set) c = some (r, c') ∧ Ans (pFits d g ch set) r ∧ KeepB c c' ∧ Cache nC nS d c' := by
  have hn4 := hA.2.1
  have h16 := pw_le hn4
  have hg := hA.2.2.2.1
  have hc2 := hA.1
  have hix : (g * 2 + ch) * 16 + set < 128 := by omega
  unfold f_Be_canLay xlet
  rw [hC.2.2.2.1]
  simp (disch := omega) only [z2, z16, z0, z128, qmul, qadd, qlt, qin, qcl]
  rw [if_neg (by omega), if_pos hix, if_pos hix]
  have h13 := hK g ch set (by omega) (by omega) (by omega)
  have e60 : ∀ (x : Nat) (c' : St), x < 128 → f_Be_canLay_60 (nI x) c' = some (if c'.2 13 x = 1 then 1 else 0, c') := by
    intro x c' hx
    unfold f_Be_canLay_60
    simp (disch := omega) only [qin, qcl]
    rw [if_pos hx]
    by_cases h : c'.2 13 x = 1
    · rw [if_pos h, if_pos h]
    · rw [if_neg h, if_neg h]
  by_cases h0 : c.2 13 ((g * 2 + ch) * 16 + set) = nI 0
  · rw [if_pos h0]
    obtain ⟨res, st', e, hk, hres⟩ := lay_class hA hch hset 4 0 (by omega) 0 (by decide) c hC
    rw [show f_Be_layFrom 5 (nI 0) (nI ch) (nI set) (nI 0) c = f_Be_layFrom (4 + 1) (nI 0) (nI ch) (nI set) (nI 0) c from rfl, e]
    simp only [Option.bind_some]
    have e59 : ∀ y : Int32, f_Be_canLay_59 (nI ((g * 2 + ch) * 16 + set)) y (nI ((g * 2 + ch) * 16 + set)) st' = some (if y = 1 then 1 else 0, sA st' 13 ((g * 2 + ch) * 16 + set) y) := by
      intro y
      unfold f_Be_canLay_59 xlet
      simp (disch := omega) only [qin, qcl]
      rw [if_pos hix, e60 _ _ hix, sA_at, if_pos rfl, if_pos rfl]
    have kb : ∀ y : Int32, KeepB c (sA st' 13 ((g * 2 + ch) * 16 + set) y) := fun y => ⟨hk.1, fun k h1 h2 h3 => by
      funext j
      rw [sA_at, if_neg h3, hk.2.1 k h1 h2]⟩
    have cc : ∀ y : Int32, (y = 1 ∧ pFits d g ch set) ∨ (y = 2 ∧ ¬ pFits d g ch set) → Cache nC nS d (sA st' 13 ((g * 2 + ch) * 16 + set) y) := by
      intro y hy g' ch' set' h1 h2 h3
      rw [sA_at, if_pos rfl]
      by_cases h9 : (g' * 2 + ch') * 16 + set' = (g * 2 + ch) * 16 + set
      · have : g' = g ∧ ch' = ch ∧ set' = set := by omega
        obtain ⟨rfl, rfl, rfl⟩ := this
        rw [if_pos rfl]
        exact Or.inr ⟨hch, hset, hy⟩
      · rw [if_neg h9, hk.2.1 13 (by decide) (by decide)]
        exact hK g' ch' set' h1 h2 h3
    rcases hres with ⟨rfl, at9, hf, hat⟩ | ⟨rfl, hno⟩
    · have hp := (fits_iff hA hch hset).mpr ⟨at9, hf.1⟩
      rw [if_neg (show ¬ (1 : Int32) = nI 0 by decide), e59]
      exact ⟨_, _, rfl, Or.inl ⟨rfl, hp⟩, kb _, cc _ (Or.inl ⟨rfl, hp⟩)⟩
    · have hp : ¬ pFits d g ch set := fun h => by
        obtain ⟨at9, h9⟩ := (fits_iff hA hch hset).mp h
        exact hno at9 h9
      rw [if_pos (show (0 : Int32) = nI 0 from rfl), ← z2, e59]
      exact ⟨_, _, rfl, Or.inr ⟨rfl, hp⟩, kb _, cc _ (Or.inr ⟨rfl, hp⟩)⟩
  · rw [if_neg h0, e60 _ _ hix]
    rcases h13 with h | ⟨-, -, ⟨h, hp⟩ | ⟨h, hp⟩⟩
    · exact absurd h h0
    · rw [h]
      exact ⟨_, _, rfl, Or.inl ⟨rfl, hp⟩, KeepB.rf, hK⟩
    · rw [h]
      exact ⟨_, _, rfl, Or.inr ⟨rfl, hp⟩, KeepB.rf, hK⟩
/-- sets within the ships that there are -/
theorem bv_and (x m : BitVec 32) (h : x &&& ~~~m = 0#32) : x = x &&& m := by
  ext i hi
  have := congrArg (fun z => z.getLsbD i) h
  simp [hi] at this
  simp
  intro h9
  exact this h9
theorem all_eq {nC nS nP g o pl : Nat} {d : Nat → Nat → Nat} {c : St} (hA : AbOk nC nS nP g o d) (hC : RC nC nS nP g o d pl c) : f_Fl_all c = some (nI (2 ^ nS - 1), c) := by
  unfold f_Fl_all
  have h1 : 1 ≤ 2 ^ nS := Nat.one_le_two_pow
  rw [hC.2.2.1, q_bit (by have := hA.2.1; omega), z1, pk_sub h1]
theorem m_toNat : ∀ n : Fin 5, (nI (2 ^ n.val - 1)).toBitVec.toNat = 2 ^ n.val - 1 := by decide +kernel
theorem sub_all {n : Nat} (hn : n ≤ 4) (x : Int32) : x &&& (nI (2 ^ n - 1) ^^^ (-1)) = 0 ↔ (0 ≤ x ∧ x ≤ nI (2 ^ n - 1)) := by
  constructor
  · intro h
    have h2 : x = x &&& nI (2 ^ n - 1) := by
      apply Int32.toBitVec_inj.mp
      rw [Int32.toBitVec_and]
      apply bv_and
      have := congrArg Int32.toBitVec h
      simpa using this
    obtain ⟨j, hj, e⟩ := pk_andE x (m := nI (2 ^ n - 1)) n (m_toNat ⟨n, by omega⟩)
    have h16 := pw_le hn
    rw [h2, e]
    exact ⟨nI_pos' (by omega), nI_le (by omega) (by omega)⟩
  · intro h
    obtain ⟨j, -, hj, rfl⟩ := in_nat (lo := 0) (hi := 2 ^ n - 1) (by decide) (by have := pw_le hn; omega) h
    have h16 := pw_le hn
    have key : ∀ n : Fin 5, ∀ j : Fin 16, j.val ≤ 2 ^ n.val - 1 → nI j.val &&& (nI (2 ^ n.val - 1) ^^^ (-1)) = 0 := by decide +kernel
    exact key ⟨n, by omega⟩ ⟨j, by omega⟩ hj
