/-! the class lays ships in the first way -/
theorem and_bit {set s : Nat} (hset : set < 16) (hs : s < 4) : (set &&& 2 ^ s = 0) ↔ set.testBit s = false := by
  have h : ∀ set : Fin 16, ∀ s : Fin 4, (set.val &&& 2 ^ s.val = 0) ↔ set.val.testBit s.val = false := by decide
  exact h ⟨set, hset⟩ ⟨s, hs⟩
theorem holds_eq {c : St} {set s : Nat} (hs : s < 4) (hset : set < 16) : f_LR_holds (nI set) (nI s) c = some (if set.testBit s = true then 1 else 0, c) := by
  unfold f_LR_holds
  have h9 : set &&& 2 ^ s < 2 ^ 4 := Nat.lt_of_le_of_lt Nat.and_le_left hset
  rw [q_bit (by omega), q_and]
  by_cases h : set &&& 2 ^ s = 0
  · rw [h, if_pos (show nI 0 = 0 from rfl), (and_bit hset hs).mp h]; rfl
  · have h2 : set.testBit s = true := by
      cases h3 : set.testBit s
      · exact absurd ((and_bit hset hs).mpr h3) h
      · rfl
    rw [if_neg (nI_ne0 (by omega) (by omega)), h2, if_pos rfl]
theorem holds_t {c : St} {set s : Nat} (hs : s < 4) (hset : set < 16) (h : set.testBit s = true) : f_LR_holds (nI set) (nI s) c = some (1, c) := by rw [holds_eq hs hset, h]; rfl
theorem holds_f {c : St} {set s : Nat} (hs : s < 4) (hset : set < 16) (h : set.testBit s = false) : f_LR_holds (nI set) (nI s) c = some (0, c) := by rw [holds_eq hs hset, h]; rfl
theorem RC.has {nC nS nP g o pl : Nat} {d : Nat → Nat → Nat} {c : St} (hA : AbOk nC nS nP g o d) (h : RC nC nS nP g o d pl c) {s : Nat} (hs : s < nS) : f_Fl_has (nI s) c = some (1, c) := by
  rw [fl_has_eq h.2.2.1 hA.2.1, if_pos ⟨nI_pos' (by have := hA.2.1; omega), nI_lt hs (by have := hA.2.1; omega)⟩]
theorem RC.hasC {nC nS nP g o pl : Nat} {d : Nat → Nat → Nat} {c : St} (hA : AbOk nC nS nP g o d) (h : RC nC nS nP g o d pl c) {s : Nat} (hs : s < nC) : f_Ch_has (nI s) c = some (1, c) := by
  rw [ch_has_eq h.1 hA.1, if_pos ⟨nI_pos' (by have := hA.1; omega), nI_lt hs (by have := hA.1; omega)⟩]
section LY
variable {nC nS nP g o pl : Nat} {d : Nat → Nat → Nat} {c : St}
theorem fl_get (hA : AbOk nC nS nP g o d) (h : RC nC nS nP g o d pl c) {s : Nat} (hs : s < nS) : f_Fl_length (nI s) c = some (nI (d 6 s), c) ∧ f_Fl_width (nI s) c = some (nI (d 7 s), c) ∧ f_Fl_side (nI s) c = some (nI (d 10 s), c) ∧ f_Fl_arrival (nI s) c = some (nI (d 8 s), c) := by
  have e3 : xin (nI s) 4 := vp_in_nI (by have := hA.2.1; omega) (by decide)
  have e4 : (nI s).toNatClampNeg = s := nI_clamp (by have := hA.2.1; omega)
  have hR := h.2.2.2.2.2.2
  refine ⟨?_, ?_, ?_, ?_⟩
  · unfold f_Fl_length; rw [RC.has hA h hs, Option.bind_some, if_neg one_ne, if_pos e3, e4, hR 6 (by omega)]
  · unfold f_Fl_width; rw [RC.has hA h hs, Option.bind_some, if_neg one_ne, if_pos e3, e4, hR 7 (by omega)]
  · unfold f_Fl_side; rw [RC.has hA h hs, Option.bind_some, if_neg one_ne, if_pos e3, e4, hR 10 (by omega)]
  · unfold f_Fl_arrival; rw [RC.has hA h hs, Option.bind_some, if_neg one_ne, if_pos e3, e4, hR 8 (by omega)]
theorem ch_get (hA : AbOk nC nS nP g o d) (h : RC nC nS nP g o d pl c) {s : Nat} (hs : s < nC) : f_Ch_length (nI s) c = some (nI (d 0 s), c) ∧ f_Ch_width (nI s) c = some (nI (d 1 s), c) ∧ f_Ch_fill (nI s) c = some (nI (d 2 s), c) := by
  have e3 : xin (nI s) 2 := vp_in_nI (by have := hA.1; omega) (by decide)
  have e4 : (nI s).toNatClampNeg = s := nI_clamp (by have := hA.1; omega)
  have hR := h.2.2.2.2.2.2
  refine ⟨?_, ?_, ?_⟩
  · unfold f_Ch_length; rw [RC.hasC hA h hs, Option.bind_some, if_neg one_ne, if_pos e3, e4, hR 0 (by omega)]
  · unfold f_Ch_width; rw [RC.hasC hA h hs, Option.bind_some, if_neg one_ne, if_pos e3, e4, hR 1 (by omega)]
  · unfold f_Ch_fill; rw [RC.hasC hA h hs, Option.bind_some, if_neg one_ne, if_pos e3, e4, hR 2 (by omega)]
end LY
/-- only the places of the ships from s on may have changed -/
def KeepL (s : Nat) (st st' : St) : Prop := st'.1 = st.1 ∧ (∀ k, k ≠ 11 → k ≠ 12 → st'.2 k = st.2 k) ∧ ∀ t, t < s → st'.2 11 t = st.2 11 t ∧ st'.2 12 t = st.2 12 t
theorem KeepL.rf {s : Nat} {st : St} : KeepL s st st := ⟨rfl, fun _ _ _ => rfl, fun _ _ => ⟨rfl, rfl⟩⟩
theorem KeepL.tr {s t : Nat} {a b c : St} (h1 : KeepL s a b) (h2 : KeepL t b c) (h : s ≤ t) : KeepL s a c := ⟨h2.1.trans h1.1, fun k h3 h4 => (h2.2.1 k h3 h4).trans (h1.2.1 k h3 h4), fun u hu => ⟨(h2.2.2 u (by omega)).1.trans (h1.2.2 u hu).1, (h2.2.2 u (by omega)).2.trans (h1.2.2 u hu).2⟩⟩
theorem KeepL.put {s : Nat} {a b : St} (h1 : KeepL s a b) (x y : Int32) : KeepL s a (sA (sA b 11 s x) 12 s y) := by
  refine ⟨h1.1, fun k h3 h4 => ?_, fun u hu => ?_⟩
  · funext j
    rw [sA_at, if_neg h4, sA_at, if_neg h3, h1.2.1 k h3 h4]
  · constructor
    · rw [sA_at, if_neg (by decide), sA_at, if_pos rfl, if_neg (by omega)]; exact (h1.2.2 u hu).1
    · rw [sA_at, if_pos rfl, if_neg (by omega), sA_at, if_neg (by decide)]; exact (h1.2.2 u hu).2
theorem KeepL.RC {nC nS nP g o pl s : Nat} {d : Nat → Nat → Nat} {a b : St} (h : KeepL s a b) (hC : RC nC nS nP g o d pl a) : RC nC nS nP g o d pl b := by
  obtain ⟨c0, c1, c2, c3, c8, c7, cR⟩ := hC
  refine ⟨by rw [h.1]; exact c0, by rw [h.1]; exact c1, by rw [h.1]; exact c2, by rw [h.1]; exact c3, by rw [h.1]; exact c8, by rw [h.1]; exact c7, fun k hk i => ?_⟩
  rw [h.2.1 k (by omega) (by omega)]
  exact cR k hk i
/-- what a laying from ship s on answers -/
def LaySpec (d : Nat → Nat → Nat) (g ch set s bl : Nat) (st0 : St) (e : Option (Int32 × St)) : Prop := ∃ (res : Int32) (st' : St), e = some (res, st') ∧ KeepL s st0 st' ∧
  ((res = 1 ∧ ∃ at9, pFirst d g ch set s bl at9 ∧ ∀ t, s ≤ t → t < 4 → set.testBit t = true → at9 t < 24 ∧ st'.2 11 t = nI (at9 t / 3) ∧ st'.2 12 t = nI (at9 t % 3)) ∨ (res = 0 ∧ ∀ at9, ¬ pSol d g ch set s bl at9))
theorem q_max0 {a b : Nat} (ha : a < 2 ^ 30) (hb : b < 2 ^ 30) : (if nI a - nI b < 0 then (0 : Int32) else nI a - nI b) = nI (a - b) := by
  rcases Nat.lt_or_ge a b with h | h
  · rw [if_pos (pk_sneg hb h), show a - b = 0 by omega]; rfl
  · rw [pk_sub h, if_neg (nI_pos (by omega))]
theorem hull_small {l w x y : Nat} (hl : x + l ≤ 8) (hw : y + w ≤ 3) : rectN 0 l 0 w * 2 ^ (3 * x + y) < 2 ^ 24 := by
  apply Nat.lt_pow_two_of_testBit
  intro n hn
  cases h : (rectN 0 l 0 w * 2 ^ (3 * x + y)).testBit n
  · rfl
  · obtain ⟨i, j, rfl, h1, h2, h3, h4⟩ := (hull_bit hl hw n).mp h
    omega
section LC
variable {nC nS nP g o pl : Nat} {d : Nat → Nat → Nat} {ch set s bl fy ly : Nat} {st0 : St}
/-- the class's rows of y for a ship: all that its side allows -/
def pRows (d : Nat → Nat → Nat) (ch s fy ly : Nat) : Prop := ly + d 7 s ≤ d 1 ch ∧ fy ≤ ly ∧ (∀ y, (y + d 7 s ≤ d 1 ch ∧ (d 10 s = 0 → y = 0) ∧ (d 10 s = 1 → y + d 7 s = d 1 ch)) ↔ (fy ≤ y ∧ y ≤ ly))
theorem lay_y (hA : AbOk nC nS nP g o d) (hch : ch < nC) (hset : set < 2 ^ nS) (hs : s < 4) (hb : set.testBit s = true) (hbl : bl < 2 ^ 24) (hRw : pRows d ch s fy ly)
    (REC : Int32 → Int32 → Int32 → Int32 → St → Option (Int32 × St))
    (hREC : ∀ bl, bl < 2 ^ 24 → ∀ st, RC nC nS nP g o d pl st → LaySpec d g ch set (s + 1) bl st (REC (nI (s + 1)) (nI ch) (nI set) (nI bl) st))
    (K : Int32 → Int32 → Int32 → Int32 → Int32 → Int32 → Int32 → Int32 → Int32 → Int32 → Int32 → St → Option (Int32 × St))
    (hC0 : RC nC nS nP g o d pl st0) (lX : Int32) (x : Nat) (hx : x + d 6 s ≤ d 0 ch)
    (hK : ∀ st, KeepL s st0 st → (∀ at9, pSol d g ch set s bl at9 → 3 * (x + 1) ≤ at9 s) → LaySpec d g ch set s bl st0 (K (nI s) (nI ch) (nI set) (nI bl) (nI (d 6 s)) (nI (d 7 s)) lX (nI ly) (nI fy) (nI (rectN 0 (d 6 s) 0 (d 7 s))) (nI (x + 1)) st)) :
    ∀ n y st, KeepL s st0 st → fy ≤ y → y ≤ ly + 1 → ly + 2 ≤ y + n → (∀ at9, pSol d g ch set s bl at9 → 3 * x + y ≤ at9 s) →
      LaySpec d g ch set s bl st0 (f_Be_layFrom_143 REC K n (nI s) (nI ch) (nI set) (nI bl) (nI (d 6 s)) (nI (d 7 s)) lX (nI ly) (nI fy) (nI (rectN 0 (d 6 s) 0 (d 7 s))) (nI x) (nI y) st) := by
  have hsn : s < nS := bit_lt hset hb
  have dC := hA.2.2.2.2.2.1 ch hch
  have dS := hA.2.2.2.2.2.2.2 s hsn
  have hg := hA.2.2.2.1
  have E : pEnv d ch set := ⟨by omega, by omega, fun t ht htb => by have := hA.2.2.2.2.2.2.2 t (bit_lt hset htb); omega⟩
  obtain ⟨r1, r2, r3⟩ := hRw
  intro n
  induction n with
  | zero => intro y st _ _ h1 h2; omega
  | succ n ih =>
    intro y st hst hfy hy hn hNB
    show LaySpec d g ch set s bl st0 (b_Be_layFrom_143 REC K (f_Be_layFrom_143 REC K n) (nI s) (nI ch) (nI set) (nI bl) (nI (d 6 s)) (nI (d 7 s)) lX (nI ly) (nI fy) (nI (rectN 0 (d 6 s) 0 (d 7 s))) (nI x) (nI y) st)
    unfold b_Be_layFrom_143 f_Be_layFrom_240
    by_cases h1 : ly < y
    · rw [if_pos (nI_lt h1 (by omega)), nI_1]
      refine hK st hst (fun at9 h9 => ?_)
      have h8 := hNB at9 h9
      obtain ⟨⟨p1, p2, p3, p4⟩, -, -⟩ := h9 s (Nat.le_refl _) hs hb
      have h7 := (r3 (at9 s % 3)).mp ⟨p2, p3, p4⟩
      omega
    · rw [if_neg (nI_nlt (by omega) (by omega))]
      have hxy : x + d 6 s ≤ 8 ∧ y + d 7 s ≤ 3 := by omega
      have hl9 := hull_small hxy.1 hxy.2
      have hl8 : (rectN 0 (d 6 s) 0 (d 7 s) * 2 ^ (3 * x + y)) &&& bl < 2 ^ 24 := Nat.and_lt_two_pow _ hbl
      have ha : (3 * x + y) / 3 = x ∧ (3 * x + y) % 3 = y := by omega
      have next : ∀ st, KeepL s st0 st → (∀ at9, pSol d g ch set s bl at9 → at9 s ≠ 3 * x + y) → LaySpec d g ch set s bl st0 (f_Be_layFrom_143 REC K n (nI s) (nI ch) (nI set) (nI bl) (nI (d 6 s)) (nI (d 7 s)) lX (nI ly) (nI fy) (nI (rectN 0 (d 6 s) 0 (d 7 s))) (nI x) (nI y + 1) st) := by
        intro st hst hne
        rw [nI_1]
        refine ih (y + 1) st hst (by omega) (by omega) (by omega) (fun at9 h9 => ?_)
        have := hNB at9 h9
        have := hne at9 h9
        omega
      rw [q_3xy, q_shl (by omega) (by omega), q_and]
      by_cases h2 : (rectN 0 (d 6 s) 0 (d 7 s) * 2 ^ (3 * x + y)) &&& bl = 0
      · rw [h2, if_pos (show nI 0 = 0 from rfl)]
        have hp : pStand d ch s ((3 * x + y) / 3) ((3 * x + y) % 3) := by
          have := (r3 y).mpr ⟨hfy, by omega⟩
          rw [ha.1, ha.2]
          exact ⟨hx, this.1, this.2.1, this.2.2⟩
        have hh : pHas d bl s (3 * x + y) := by
          unfold pHas
          rw [ha.1, ha.2]
          exact (hull_clear hxy.1 hxy.2).mp h2
        have hin : xin (nI s) 4 := vp_in_nI hs (by decide)
        rw [if_pos hin]
        simp only [xlet, if_pos hin, nI_clamp (show s < 2 ^ 31 by omega)]
        have hst2 : KeepL s st0 (sA (sA st 11 s (nI x)) 12 s (nI y)) := hst.put _ _
        have hC2 := hst2.RC hC0
        have e3 : (sA (sA st 11 s (nI x)) 12 s (nI y)).1 3 = nI g := hC2.2.2.2.1
        rw [e3, nI_add, nI_add, nI_add, nI_add, cells_eq (fx := x - g) (fy := y - g) (by omega) (by omega) (by omega) (by omega) (q_max0 (by omega) (by omega)) (q_max0 (by omega) (by omega))]
        simp only [Option.bind_some]
        rw [q_or, nI_1]
        have hnear : rectN (x - g) (x + d 6 s + g) (y - g) (y + d 7 s + g) = nearN d g s ((3 * x + y) / 3) ((3 * x + y) % 3) := by rw [ha.1, ha.2]; rfl
        rw [hnear]
        obtain ⟨res, st', e, hk, hres⟩ := hREC (bl ||| nearN d g s ((3 * x + y) / 3) ((3 * x + y) % 3)) (or_lt hbl (by rw [← hnear]; exact rect_lt _ _ _ _)) _ hC2
        rw [e]
        simp only [Option.bind_some]
        rcases hres with ⟨rfl, at9, hf, hat⟩ | ⟨rfl, hno⟩
        · rw [if_neg one_ne]
          refine ⟨1, st', rfl, hst2.tr hk (by omega), Or.inl ⟨rfl, putAt at9 s (3 * x + y), first_in E hs hb hp hh hf hNB, fun t h3 h4 h5 => ?_⟩⟩
          rcases Nat.eq_or_lt_of_le h3 with rfl | h3
          · rw [putAt_same, (hk.2.2 s (by omega)).1, (hk.2.2 s (by omega)).2, ha.1, ha.2]
            refine ⟨by omega, ?_, ?_⟩
            · rw [sA_at, if_neg (by decide), sA_at, if_pos rfl, if_pos rfl]
            · rw [sA_at, if_pos rfl, if_pos rfl]
          · rw [putAt_ne at9 (by omega)]
            exact hat t h3 h4 h5
        · rw [if_pos rfl]
          refine next st' (hst2.tr hk (by omega)) (fun at9 h9 h8 => ?_)
          have h7 := ((sol_in E hs hb at9).mp h9).2
          rw [h8] at h7
          exact hno at9 h7
      · rw [if_neg (nI_ne0 (by omega) (by omega))]
        refine next st hst (fun at9 h9 h8 => h2 ?_)
        obtain ⟨-, p2, -⟩ := h9 s (Nat.le_refl _) hs hb
        rw [h8] at p2
        unfold pHas at p2
        rw [ha.1, ha.2] at p2
        exact (hull_clear hxy.1 hxy.2).mpr p2
theorem lay_x (hA : AbOk nC nS nP g o d) (hch : ch < nC) (hset : set < 2 ^ nS) (hs : s < 4) (hb : set.testBit s = true) (hbl : bl < 2 ^ 24) (hRw : pRows d ch s fy ly)
    (REC : Int32 → Int32 → Int32 → Int32 → St → Option (Int32 × St))
    (hREC : ∀ bl, bl < 2 ^ 24 → ∀ st, RC nC nS nP g o d pl st → LaySpec d g ch set (s + 1) bl st (REC (nI (s + 1)) (nI ch) (nI set) (nI bl) st))
    (hC0 : RC nC nS nP g o d pl st0) :
    ∀ n x st, KeepL s st0 st → x ≤ 8 → 10 ≤ x + n → (∀ at9, pSol d g ch set s bl at9 → 3 * x ≤ at9 s) →
      LaySpec d g ch set s bl st0 (f_Be_layFrom_132 REC n (nI s) (nI ch) (nI set) (nI bl) (nI (d 6 s)) (nI (d 7 s)) (nI (d 0 ch) - nI (d 6 s)) (nI ly) (nI fy) (nI (rectN 0 (d 6 s) 0 (d 7 s))) (nI x) st) := by
  have hsn : s < nS := bit_lt hset hb
  have dC := hA.2.2.2.2.2.1 ch hch
  have dS := hA.2.2.2.2.2.2.2 s hsn
  intro n
  induction n with
  | zero => intro x st _ h1 h2; omega
  | succ n ih =>
    intro x st hst hx hn hNB
    show LaySpec d g ch set s bl st0 (b_Be_layFrom_132 REC (f_Be_layFrom_132 REC n) (nI s) (nI ch) (nI set) (nI bl) (nI (d 6 s)) (nI (d 7 s)) (nI (d 0 ch) - nI (d 6 s)) (nI ly) (nI fy) (nI (rectN 0 (d 6 s) 0 (d 7 s))) (nI x) st)
    unfold b_Be_layFrom_132
    by_cases h1 : d 0 ch < d 6 s + x
    · rw [if_pos ((qslt (by omega) (by omega) (by omega)).mpr h1)]
      refine ⟨0, st, rfl, hst, Or.inr ⟨rfl, fun at9 h9 => ?_⟩⟩
      have h8 := hNB at9 h9
      obtain ⟨⟨p1, p2, p3, p4⟩, -, -⟩ := h9 s (Nat.le_refl _) hs hb
      omega
    · rw [if_neg (fun h => h1 ((qslt (by omega) (by omega) (by omega)).mp h))]
      have r2 := hRw.2.1
      have r1 := hRw.1
      refine lay_y hA hch hset hs hb hbl hRw REC hREC _ hC0 _ x (by omega) (fun st hst hNB => ih (x + 1) st hst (by omega) (by omega) hNB) 40 fy st hst (Nat.le_refl _) (by omega) (by omega) (fun at9 h9 => ?_)
      have h8 := hNB at9 h9
      obtain ⟨⟨p1, p2, p3, p4⟩, -, -⟩ := h9 s (Nat.le_refl _) hs hb
      have h7 := (hRw.2.2 (at9 s % 3)).mp ⟨p2, p3, p4⟩
      omega
theorem lay_class (hA : AbOk nC nS nP g o d) (hch : ch < nC) (hset : set < 2 ^ nS) : ∀ r s, s + r = 4 → ∀ bl, bl < 2 ^ 24 → ∀ st, RC nC nS nP g o d pl st → LaySpec d g ch set s bl st (f_Be_layFrom (r + 1) (nI s) (nI ch) (nI set) (nI bl) st) := by
  have hn4 := hA.2.1
  have h16 := pw_le hn4
  have dC := hA.2.2.2.2.2.1 ch hch
  intro r
  induction r with
  | zero =>
    intro s hs bl hbl st hC
    show LaySpec d g ch set s bl st (fb_Be_layFrom (f_Be_layFrom 0) (nI s) (nI ch) (nI set) (nI bl) st)
    unfold fb_Be_layFrom
    have hs4 : s = 4 := by omega
    subst hs4
    rw [if_neg (nI_pos (by omega)), if_neg (show ¬ nI 4 < 4 by decide)]
    exact ⟨1, st, rfl, KeepL.rf, Or.inl ⟨rfl, fun _ => 0, ⟨fun t h1 h2 => by omega, fun at8 _ t h1 h2 => by omega⟩, fun t h1 h2 => by omega⟩⟩
  | succ r ih =>
    intro s hs bl hbl st hC
    show LaySpec d g ch set s bl st (fb_Be_layFrom (f_Be_layFrom (r + 1)) (nI s) (nI ch) (nI set) (nI bl) st)
    unfold fb_Be_layFrom
    have hs4 : s < 4 := by omega
    rw [if_neg (nI_pos (by omega)), if_pos (show nI s < 4 from nI_lt (b := 4) hs4 (by decide))]
    have IH := ih (s + 1) (by omega)
    cases hb : set.testBit s
    · rw [holds_f hs4 (by omega) hb]
      simp only [Option.bind_some, if_true]
      rw [nI_1]
      obtain ⟨res, st', e, hk, hres⟩ := IH bl hbl st hC
      rw [e]
      simp only [Option.bind_some]
      have hk' : KeepL s st st' := ⟨hk.1, hk.2.1, fun t ht => hk.2.2 t (by omega)⟩
      rcases hres with ⟨rfl, at9, hf, hat⟩ | ⟨rfl, hno⟩
      · rw [if_pos (Or.inr rfl)]
        refine ⟨1, st', rfl, hk', Or.inl ⟨rfl, at9, first_out hb hf, fun t h1 h2 h3 => hat t ?_ h2 h3⟩⟩
        have : t ≠ s := fun e => by rw [e, hb] at h3; cases h3
        omega
      · rw [if_pos (Or.inl rfl)]
        exact ⟨0, st', rfl, hk', Or.inr ⟨rfl, fun at9 h9 => hno at9 ((sol_out hb at9).mp h9)⟩⟩
    · have hsn : s < nS := bit_lt hset hb
      have dS := hA.2.2.2.2.2.2.2 s hsn
      obtain ⟨f1, f2, f3, -⟩ := fl_get hA hC hsn
      obtain ⟨c1, c2, -⟩ := ch_get hA hC hch
      rw [holds_t hs4 (by omega) hb]
      simp only [Option.bind_some, if_neg one_ne]
      rw [f1]
      simp only [Option.bind_some]
      rw [f2]
      simp only [Option.bind_some]
      rw [c1]
      simp only [Option.bind_some, xlet]
      rw [c2]
      simp only [Option.bind_some, f3]
      by_cases h1 : d 7 s ≤ d 1 ch
      · rw [if_pos (show (0 : Int32) ≤ nI (d 1 ch) - nI (d 7 s) from (qsle (x := 0) (by omega) (by omega) (by omega)).mpr (by omega))]
        have go : ∀ fy ly : Nat, pRows d ch s fy ly → LaySpec d g ch set s bl st (f_Be_layFrom_118 (f_Be_layFrom (r + 1)) (nI s) (nI ch) (nI set) (nI bl) (nI (d 6 s)) (nI (d 7 s)) (nI (d 0 ch) - nI (d 6 s)) (nI ly) (nI fy) st) := by
          intro fy ly hRw
          unfold f_Be_layFrom_118
          rw [cells_eq (fx := 0) (fy := 0) (by omega) (by omega) (by omega) (by omega) rfl rfl]
          simp only [Option.bind_some]
          exact lay_x hA hch hset hs4 hb hbl hRw _ IH hC 40 0 st KeepL.rf (by omega) (by omega) (fun at9 _ => Nat.zero_le _)
        rw [pk_sub h1]
        unfold f_Be_layFrom_102
        simp only [f3, Option.bind_some]
        have k3 : d 10 s = 0 ∨ d 10 s = 1 ∨ d 10 s = 2 := by omega
        rcases k3 with k | k | k
        · rw [k, if_neg (by decide), if_pos (show nI 0 = 0 from rfl)]
          exact go 0 0 ⟨by omega, by omega, fun y => by omega⟩
        · rw [k, if_pos (show nI 1 = 1 from rfl), if_neg (by decide)]
          exact go (d 1 ch - d 7 s) (d 1 ch - d 7 s) ⟨by omega, by omega, fun y => by omega⟩
        · rw [k, if_neg (by decide), if_neg (by decide)]
          exact go 0 (d 1 ch - d 7 s) ⟨by omega, by omega, fun y => by omega⟩
      · rw [if_neg (fun h => h1 (by have := (qsle (x := 0) (by omega) (by omega) (by omega)).mp h; omega))]
        refine ⟨0, st, rfl, KeepL.rf, Or.inr ⟨rfl, fun at9 h9 => ?_⟩⟩
        obtain ⟨⟨p1, p2, p3, p4⟩, -, -⟩ := h9 s (Nat.le_refl _) hs4 hb
        omega
end LC
