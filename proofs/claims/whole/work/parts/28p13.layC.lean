/-! the class lays ships in the first way -/
theorem holds_eq {c : St} {set s : Nat} (hs : s < 4) (hset : set < 16) : f_LR_holds (nI set) (nI s) c = some (if set.testBit s = true then 1 else 0, c) := by
  unfold f_LR_holds
  rw [q_bit (by omega), q_and, Nat.and_two_pow]
  cases h : set.testBit s
  · rw [if_pos (by simp [nI])]; rfl
  · rw [if_neg]
    · rfl
    · simp only [Bool.toNat_true, Nat.one_mul]
      have h4 : 2 ^ s ≤ 2 ^ 3 := Nat.pow_le_pow_right (by decide) (by omega)
      have h5 : 0 < 2 ^ s := Nat.two_pow_pos s
      exact nI_ne0 h5 (by omega)
theorem RC.has {nC nS nP g o pl : Nat} {d : Nat → Nat → Nat} {c : St} (hA : AbOk nC nS nP g o d) (h : RC nC nS nP g o d pl c) {s : Nat} (hs : s < nS) : f_Fl_has (nI s) c = some (1, c) := by
  rw [fl_has_eq h.2.2.1 hA.2.1, if_pos ⟨nI_pos' (by have := hA.2.1; omega), nI_lt hs (by have := hA.2.1; omega)⟩]
theorem RC.hasC {nC nS nP g o pl : Nat} {d : Nat → Nat → Nat} {c : St} (hA : AbOk nC nS nP g o d) (h : RC nC nS nP g o d pl c) {s : Nat} (hs : s < nC) : f_Ch_has (nI s) c = some (1, c) := by
  rw [ch_has_eq h.1 hA.1, if_pos ⟨nI_pos' (by have := hA.1; omega), nI_lt hs (by have := hA.1; omega)⟩]
section LY
variable {nC nS nP g o pl : Nat} {d : Nat → Nat → Nat} {c : St}
theorem fl_get (hA : AbOk nC nS nP g o d) (h : RC nC nS nP g o d pl c) {s : Nat} (hs : s < nS) : f_Fl_length (nI s) c = some (nI (d 6 s), c) ∧ f_Fl_width (nI s) c = some (nI (d 7 s), c) ∧ f_Fl_side (nI s) c = some (nI (d 10 s), c) ∧ f_Fl_arrival (nI s) c = some (nI (d 8 s), c) := by
  have e3 : xin (nI s) 4 := vp_in_nI (by have := hA.2.1; omega) (by decide)
  have e4 : (nI s).toNatClampNeg = s := nI_clamp (by have := hA.2.1; omega)
  have hR := h.2.2.2.2.2.2
  refine ⟨?_, ?_, ?_, ?_⟩
  · unfold f_Fl_length; rw [RC.has hA h hs, Option.bind_some, if_neg one_ne, if_pos e3, e4, hR 6 (by omega)]
  · unfold f_Fl_width; rw [RC.has hA h hs, Option.bind_some, if_neg one_ne, if_pos e3, e4, hR 7 (by omega)]
  · unfold f_Fl_side; rw [RC.has hA h hs, Option.bind_some, if_neg one_ne, if_pos e3, e4, hR 10 (by omega)]
  · unfold f_Fl_arrival; rw [RC.has hA h hs, Option.bind_some, if_neg one_ne, if_pos e3, e4, hR 8 (by omega)]
theorem ch_get (hA : AbOk nC nS nP g o d) (h : RC nC nS nP g o d pl c) {s : Nat} (hs : s < nC) : f_Ch_length (nI s) c = some (nI (d 0 s), c) ∧ f_Ch_width (nI s) c = some (nI (d 1 s), c) ∧ f_Ch_fill (nI s) c = some (nI (d 2 s), c) := by
  have e3 : xin (nI s) 2 := vp_in_nI (by have := hA.1; omega) (by decide)
  have e4 : (nI s).toNatClampNeg = s := nI_clamp (by have := hA.1; omega)
  have hR := h.2.2.2.2.2.2
  refine ⟨?_, ?_, ?_⟩
  · unfold f_Ch_length; rw [RC.hasC hA h hs, Option.bind_some, if_neg one_ne, if_pos e3, e4, hR 0 (by omega)]
  · unfold f_Ch_width; rw [RC.hasC hA h hs, Option.bind_some, if_neg one_ne, if_pos e3, e4, hR 1 (by omega)]
  · unfold f_Ch_fill; rw [RC.hasC hA h hs, Option.bind_some, if_neg one_ne, if_pos e3, e4, hR 2 (by omega)]
end LY
/-- only the places of the ships from s on may have changed -/
def KeepL (s : Nat) (st st' : St) : Prop := st'.1 = st.1 ∧ (∀ k, k ≠ 11 → k ≠ 12 → st'.2 k = st.2 k) ∧ ∀ t, t < s → st'.2 11 t = st.2 11 t ∧ st'.2 12 t = st.2 12 t
theorem KeepL.rf {s : Nat} {st : St} : KeepL s st st := ⟨rfl, fun _ _ _ => rfl, fun _ _ => ⟨rfl, rfl⟩⟩
theorem KeepL.tr {s t : Nat} {a b c : St} (h1 : KeepL s a b) (h2 : KeepL t b c) (h : s ≤ t) : KeepL s a c := ⟨h2.1.trans h1.1, fun k h3 h4 => (h2.2.1 k h3 h4).trans (h1.2.1 k h3 h4), fun u hu => ⟨(h2.2.2 u (by omega)).1.trans (h1.2.2 u hu).1, (h2.2.2 u (by omega)).2.trans (h1.2.2 u hu).2⟩⟩
theorem KeepL.put {s : Nat} {a b : St} (h1 : KeepL s a b) (x y : Int32) : KeepL s a (sA (sA b 11 s x) 12 s y) := by
  refine ⟨h1.1, fun k h3 h4 => ?_, fun u hu => ?_⟩
  · funext j
    rw [sA_at, if_neg h4, sA_at, if_neg h3, h1.2.1 k h3 h4]
  · constructor
    · rw [sA_at, if_neg (by decide), sA_at, if_pos rfl, if_neg (by omega)]; exact (h1.2.2 u hu).1
    · rw [sA_at, if_pos rfl, if_neg (by omega), sA_at, if_neg (by decide)]; exact (h1.2.2 u hu).2
theorem KeepL.RC {nC nS nP g o pl s : Nat} {d : Nat → Nat → Nat} {a b : St} (h : KeepL s a b) (hC : RC nC nS nP g o d pl a) : RC nC nS nP g o d pl b := by
  obtain ⟨c0, c1, c2, c3, c8, c7, cR⟩ := hC
  refine ⟨by rw [h.1]; exact c0, by rw [h.1]; exact c1, by rw [h.1]; exact c2, by rw [h.1]; exact c3, by rw [h.1]; exact c8, by rw [h.1]; exact c7, fun k hk i => ?_⟩
  rw [h.2.1 k (by omega) (by omega)]
  exact cR k hk i
/-- what a laying from ship s on answers -/
def LaySpec (d : Nat → Nat → Nat) (g ch set s bl : Nat) (st0 : St) (e : Option (Int32 × St)) : Prop := ∃ (res : Int32) (st' : St), e = some (res, st') ∧ KeepL s st0 st' ∧
  ((res = 1 ∧ ∃ at9, pFirst d g ch set s bl at9 ∧ ∀ t, s ≤ t → t < 4 → set.testBit t = true → at9 t < 24 ∧ st'.2 11 t = nI (at9 t / 3) ∧ st'.2 12 t = nI (at9 t % 3)) ∨ (res = 0 ∧ ∀ at9, ¬ pSol d g ch set s bl at9))
theorem q_max0 {a b : Nat} (ha : a < 2 ^ 30) (hb : b < 2 ^ 30) : (if nI a - nI b < 0 then (0 : Int32) else nI a - nI b) = nI (a - b) := by
  rcases Nat.lt_or_ge a b with h | h
  · rw [if_pos (pk_sneg hb h), show a - b = 0 by omega]; rfl
  · rw [pk_sub h, if_neg (nI_pos (by omega))]
theorem hull_small {l w x y : Nat} (hl : x + l ≤ 8) (hw : y + w ≤ 3) : rectN 0 l 0 w * 2 ^ (3 * x + y) < 2 ^ 24 := by
  apply Nat.lt_pow_two_of_testBit
  intro n hn
  cases h : (rectN 0 l 0 w * 2 ^ (3 * x + y)).testBit n
  · rfl
  · obtain ⟨i, j, rfl, h1, h2, h3, h4⟩ := (hull_bit hl hw n).mp h
    omega
