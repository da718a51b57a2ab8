/-! the class's search: nodes -/
def pc (l : Nat) : Nat := (l.testBit 0).toNat + (l.testBit 1).toNat + (l.testBit 2).toNat + (l.testBit 3).toNat
def lm (l j : Nat) : Nat := mkS (fun s => l.testBit s && !j.testBit s)
def SubS (j l : Nat) : Prop := ∀ s, s < 4 → j.testBit s = true → l.testBit s = true
theorem sub_iff {j l : Nat} (hj : j < 16) (hl : l < 16) : nI j &&& (nI l ^^^ (-1)) = 0 ↔ SubS j l := by
  have H : ∀ j l : Fin 16, (nI j.val &&& (nI l.val ^^^ (-1)) = 0) ↔ (∀ s : Fin 4, j.val.testBit s.val = true → l.val.testBit s.val = true) := by decide +kernel
  exact (H ⟨j, hj⟩ ⟨l, hl⟩).trans ⟨fun h s hs => h ⟨s, hs⟩, fun h s => h s.val s.isLt⟩
theorem lm_eq {l j : Nat} (hl : l < 16) (hj : j < 16) : nI l &&& (nI j ^^^ (-1)) = nI (lm l j) := by
  have H : ∀ l j : Fin 16, nI l.val &&& (nI j.val ^^^ (-1)) = nI (lm l.val j.val) := by decide +kernel
  exact H ⟨l, hl⟩ ⟨j, hj⟩
theorem lm_lt (l j : Nat) : lm l j < 16 := mkS_lt _
theorem lm_bit {l j s : Nat} (hs : s < 4) : (lm l j).testBit s = (l.testBit s && !j.testBit s) := mkS_bit _ hs
theorem lm_f {l j s : Nat} (hs : s < 4) (h : (lm l j).testBit s = false) : l.testBit s = false ∨ j.testBit s = true := by
  rw [lm_bit hs] at h
  cases h1 : l.testBit s
  · exact Or.inl rfl
  · cases h2 : j.testBit s
    · rw [h1, h2] at h; cases h
    · exact Or.inr rfl
theorem lm_t {l j s : Nat} (hs : s < 4) (h : (lm l j).testBit s = true) : l.testBit s = true ∧ j.testBit s = false := by
  rw [lm_bit hs] at h
  cases h1 : l.testBit s
  · rw [h1] at h; cases h
  · cases h2 : j.testBit s
    · exact ⟨rfl, rfl⟩
    · rw [h1, h2] at h; cases h
theorem lm_pc {l j : Nat} (hl : l < 16) (hj : j < 16) (h0 : j ≠ 0) (h : SubS j l) : pc (lm l j) < pc l := by
  have H : ∀ l j : Fin 16, j.val ≠ 0 → (∀ s : Fin 4, j.val.testBit s.val = true → l.val.testBit s.val = true) → pc (lm l.val j.val) < pc l.val := by decide +kernel
  exact H ⟨l, hl⟩ ⟨j, hj⟩ h0 (fun s => h s.val s.isLt)
theorem pc_pos {l : Nat} (hl : l < 16) (h0 : l ≠ 0) : 1 ≤ pc l := by
  have H : ∀ l : Fin 16, l.val ≠ 0 → 1 ≤ pc l.val := by decide +kernel
  exact H ⟨l, hl⟩ h0
theorem pc_le {l : Nat} (hl : l < 16) : pc l ≤ 4 := by
  have H : ∀ l : Fin 16, pc l.val ≤ 4 := by decide +kernel
  exact H ⟨l, hl⟩
def NodeP (nC nS g : Nat) (d : Nat → Nat → Nat) (p : Nat → Nat) (left c r : Nat) : Prop := left < 2 ^ nS ∧ r + pc left ≤ 4 ∧ c ≤ nC ∧
  (∀ s, s < nS → left.testBit s = false → p s < 4 * c + r ∧ p s < 4 * nC) ∧ (∀ s, s < nS → left.testBit s = true → p s = 999) ∧
  (∀ q, q < 4 * nC → setA nS p q ≠ 0 → oneW d (setA nS p q) ∧ pFits d g (q / 4) (setA nS p q)) ∧
  (∀ s, s < nS → left.testBit s = false → ∀ k, k < p s % 4 → ∃ t, t < nS ∧ left.testBit t = false ∧ p t = 4 * (p s / 4) + k) ∧ (∀ k, k < r → ∃ t, t < nS ∧ left.testBit t = false ∧ p t = 4 * c + k)
def TrP (d : Nat → Nat → Nat) (nP nS : Nat) (p : Nat → Nat) (left : Nat) (st : St) : Prop := ∀ s, s < nS → left.testBit s = false → st.2 14 s = nI (bA d nP nS p s) ∧ st.2 15 s = nI (p s / 4) ∧ st.2 16 s = nI (p s % 4)
def wP (d : Nat → Nat → Nat) (nP nS : Nat) (p : Nat → Nat) (left : Nat) : Nat := wS d (bA d nP nS p) (fun s => decide (s < nS) && !left.testBit s)
def Ext9 (nS : Nat) (p : Nat → Nat) (left q : Nat) (a : Nat → Nat) : Prop := ∀ s, s < nS → (left.testBit s = false → a s = p s) ∧ (left.testBit s = true → q ≤ a s)
section ND
variable {nC nS nP g o : Nat} {d : Nat → Nat → Nat} {p : Nat → Nat} {left c r : Nat}
def chP (p : Nat → Nat) (j q : Nat) (s : Nat) : Nat := if j.testBit s = true then q else p s
theorem chP_t {j q s : Nat} (h : j.testBit s = true) : chP p j q s = q := if_pos h
theorem chP_f {j q s : Nat} (h : j.testBit s = false) : chP p j q s = p s := if_neg (by rw [h]; decide)
theorem sub_f {j l s : Nat} (hs : s < 4) (h : SubS j l) (hl : l.testBit s = false) : j.testBit s = false := by
  cases h1 : j.testBit s
  · rfl
  · rw [h s hs h1] at hl; cases hl
theorem ch_sets (hA : AbOk nC nS nP g o d) (hN : NodeP nC nS g d p left c r) {j : Nat} (hj : j < 16) (h0 : j ≠ 0) (hsub : SubS j left) (hc : c < nC) (hr : r < 4) : (∀ q, q < 4 * c + r → setA nS (chP p j (4 * c + r)) q = setA nS p q) ∧ setA nS (chP p j (4 * c + r)) (4 * c + r) = j := by
  have hn := hA.2.1
  have hC2 := hA.1
  obtain ⟨n1, n2, n3, n4, n5, n6, n7, n8⟩ := hN
  constructor
  · intro q hq
    refine setA_congr (fun s hs => ?_)
    cases hb : j.testBit s
    · rw [chP_f hb]
    · rw [chP_t hb, n5 s hs (hsub s (by omega) hb)]
      constructor <;> intro h <;> omega
  · refine set_ext (setA_lt _) hj (fun s hs => ?_)
    rw [Bool.eq_iff_iff, setA_bit hn]
    constructor
    · rintro ⟨h1, h2⟩
      cases hb : j.testBit s
      · rw [chP_f hb] at h2
        cases hl : left.testBit s
        · have := (n4 s h1 hl).1
          omega
        · have := n5 s h1 hl
          omega
      · rfl
    · intro h
      exact ⟨bit_lt n1 (hsub s hs h), chP_t h⟩
theorem ch_beg (hA : AbOk nC nS nP g o d) (hN : NodeP nC nS g d p left c r) {j : Nat} (hj : j < 16) (h0 : j ≠ 0) (hsub : SubS j left) (hc : c < nC) (hr : r < 4) :
    cst d nP (setA nS (chP p j (4 * c + r))) c (r + 1) = (bgS d nP c j (cst d nP (setA nS p) c r) + d 2 c, 1 - dirN d j) ∧
    (∀ s, s < nS → left.testBit s = false → bA d nP nS (chP p j (4 * c + r)) s = bA d nP nS p s) ∧
    (∀ s, s < nS → j.testBit s = true → bA d nP nS (chP p j (4 * c + r)) s = bgS d nP c j (cst d nP (setA nS p) c r)) := by
  obtain ⟨e1, e2⟩ := ch_sets hA hN hj h0 hsub hc hr
  have hn := hA.2.1
  obtain ⟨n1, n2, n3, n4, n5, n6, n7, n8⟩ := hN
  have e3 : cst d nP (setA nS (chP p j (4 * c + r))) c r = cst d nP (setA nS p) c r := cst_congr r (fun k hk => e1 _ (by omega))
  have e4 : bgn d nP (setA nS (chP p j (4 * c + r))) c r = bgS d nP c j (cst d nP (setA nS p) c r) := by
    unfold bgn
    rw [e2, e3]
  refine ⟨?_, fun s hs hl => ?_, fun s hs hb => ?_⟩
  · rw [cst_next (by rw [e2]; exact h0), e4, e2]
  · unfold bA
    rw [chP_f (sub_f (by omega) hsub hl)]
    refine bgn_congr (fun k hk => e1 _ ?_)
    have := (n4 s hs hl).1
    omega
  · unfold bA
    rw [chP_t hb, show (4 * c + r) / 4 = c by omega, show (4 * c + r) % 4 = r by omega, e4]
theorem ch_node (hA : AbOk nC nS nP g o d) (hN : NodeP nC nS g d p left c r) {j : Nat} (hj : j < 16) (h0 : j ≠ 0) (hsub : SubS j left) (hc : c < nC) (hr : r < 4) (hw : oneW d j) (hf : pFits d g c j) : NodeP nC nS g d (chP p j (4 * c + r)) (lm left j) c (r + 1) := by
  obtain ⟨e1, e2⟩ := ch_sets hA hN hj h0 hsub hc hr
  have hn := hA.2.1
  have hC2 := hA.1
  have h16 := pw_le hn
  obtain ⟨n1, n2, n3, n4, n5, n6, n7, n8⟩ := hN
  have hpc := lm_pc (by omega) hj h0 hsub
  have hT : ∀ t, t < nS → left.testBit t = false → (lm left j).testBit t = false ∧ chP p j (4 * c + r) t = p t := fun t ht hl => ⟨by rw [lm_bit (by omega), hl]; rfl, chP_f (sub_f (by omega) hsub hl)⟩
  refine ⟨?_, by omega, n3, fun s hs hl => ?_, fun s hs hl => ?_, fun q hq hne => ?_, fun s hs hl k hk => ?_, fun k hk => ?_⟩
  · apply Nat.lt_pow_two_of_testBit
    intro n hn9
    rcases Nat.lt_or_ge n 4 with h4 | h4
    · rw [lm_bit h4]
      cases hl : left.testBit n
      · rfl
      · have := bit_lt n1 hl
        omega
    · exact Nat.testBit_lt_two_pow (Nat.lt_of_lt_of_le (lm_lt _ _) (Nat.pow_le_pow_right (n := 2) (by decide) h4))
  · rcases lm_f (by omega) hl with h | h
    · rw [(hT s hs h).2]
      have := n4 s hs h
      omega
    · rw [chP_t h]
      omega
  · obtain ⟨h1, h2⟩ := lm_t (by omega) hl
    rw [chP_f h2]
    exact n5 s hs h1
  · rcases Nat.lt_trichotomy q (4 * c + r) with h | h | h
    · rw [e1 q h] at hne ⊢
      exact n6 q hq hne
    · subst h
      rw [e2, show (4 * c + r) / 4 = c by omega]
      exact ⟨hw, hf⟩
    · exfalso
      obtain ⟨s, hs, he⟩ := (setA_ne hn q).mp hne
      cases hb : j.testBit s
      · rw [chP_f hb] at he
        cases hl : left.testBit s
        · have := (n4 s hs hl).1
          omega
        · have := n5 s hs hl
          omega
      · rw [chP_t hb] at he
        omega
  · rcases lm_f (by omega) hl with h | h
    · rw [(hT s hs h).2] at hk ⊢
      obtain ⟨t, t1, t2, t3⟩ := n7 s hs h k hk
      exact ⟨t, t1, (hT t t1 t2).1, by rw [(hT t t1 t2).2]; exact t3⟩
    · rw [chP_t h] at hk ⊢
      obtain ⟨t, t1, t2, t3⟩ := n8 k (by omega)
      exact ⟨t, t1, (hT t t1 t2).1, by rw [(hT t t1 t2).2]; omega⟩
  · rcases Nat.eq_or_lt_of_le (Nat.le_of_lt_succ hk) with rfl | h
    · obtain ⟨s, hs⟩ := set_ne0 h0
      have hs4 : s < 4 := bit_lt (nS := 4) hj hs
      have hl := hsub s hs4 hs
      exact ⟨s, bit_lt n1 hl, by rw [lm_bit hs4, hs, hl]; rfl, chP_t hs⟩
    · obtain ⟨t, t1, t2, t3⟩ := n8 k h
      exact ⟨t, t1, (hT t t1 t2).1, by rw [(hT t t1 t2).2]; exact t3⟩
theorem ch_wait (hA : AbOk nC nS nP g o d) (hN : NodeP nC nS g d p left c r) {j : Nat} (hj : j < 16) (h0 : j ≠ 0) (hsub : SubS j left) (hc : c < nC) (hr : r < 4) : wP d nP nS (chP p j (4 * c + r)) (lm left j) = wP d nP nS p left + wS d (fun _ => bgS d nP c j (cst d nP (setA nS p) c r)) j.testBit := by
  obtain ⟨-, e1, e2⟩ := ch_beg hA hN hj h0 hsub hc hr
  have hn := hA.2.1
  refine wS_add (fun s hs => ?_)
  by_cases hsn : s < nS
  · cases hl : left.testBit s
    · have hb := sub_f hs hsub hl
      rw [lm_bit hs, hl, hb, e1 s hsn hl]
      simp [hsn]
    · cases hb : j.testBit s
      · rw [lm_bit hs, hl, hb]
        simp
      · rw [lm_bit hs, hl, hb, e2 s hsn hb]
        simp [hsn]
  · have hl : left.testBit s = false := by
      cases h : left.testBit s
      · rfl
      · exact absurd (bit_lt hN.1 h) hsn
    have hb := sub_f hs hsub hl
    rw [hb]
    simp [hsn]
theorem ch_tr (hA : AbOk nC nS nP g o d) (hN : NodeP nC nS g d p left c r) {j : Nat} (hj : j < 16) (h0 : j ≠ 0) (hsub : SubS j left) (hc : c < nC) (hr : r < 4) {st st' : St} (hT : TrP d nP nS p left st) (hP : PutT j (nI c) (nI r) (nI (bgS d nP c j (cst d nP (setA nS p) c r))) 0 st st') : TrP d nP nS (chP p j (4 * c + r)) (lm left j) st' := by
  obtain ⟨-, e1, e2⟩ := ch_beg hA hN hj h0 hsub hc hr
  have hn := hA.2.1
  intro s hs hl
  obtain ⟨h1, h2⟩ := hP.2.2 s (by omega)
  rcases lm_f (by omega) hl with h | h
  · have hb := sub_f (by omega) hsub h
    obtain ⟨q1, q2, q3⟩ := h2 (Or.inl hb)
    rw [q1, q2, q3, e1 s hs h, chP_f hb]
    exact hT s hs h
  · obtain ⟨q1, q2, q3⟩ := h1 h (Nat.zero_le _)
    rw [q1, q2, q3, e2 s hs h, chP_t h, show (4 * c + r) / 4 = c by omega, show (4 * c + r) % 4 = r by omega]
    exact ⟨rfl, rfl, rfl⟩
/-- the waiting of a node only grows -/
theorem w_grow (hA : AbOk nC nS nP g o d) (hN : NodeP nC nS g d p left c r) {a : Nat → Nat} (ha : Ext9 nS p left (4 * c + r) a) : wP d nP nS p left ≤ wA d nP nS a := by
  obtain ⟨n1, n2, n3, n4, n5, n6, n7, n8⟩ := hN
  have hn := hA.2.1
  have hC2 := hA.1
  have h16 := pw_le hn
  have hpc := pc_le (l := left) (by omega)
  refine wS_le (fun s hs => ?_)
  by_cases hsn : s < nS
  · cases hl : left.testBit s
    · have e : bA d nP nS a s = bA d nP nS p s := by
        unfold bA
        rw [(ha s hsn).1 hl]
        refine bgn_congr (fun k hk => setA_congr (fun t ht => ?_))
        have h1 := (n4 s hsn hl).1
        cases hlt : left.testBit t
        · rw [(ha t ht).1 hlt]
        · have h2 := (ha t ht).2 hlt
          rw [n5 t ht hlt]
          constructor <;> intro h <;> omega
      rw [e]
      simp [hsn]
    · simp
  · simp [hsn]
end ND
