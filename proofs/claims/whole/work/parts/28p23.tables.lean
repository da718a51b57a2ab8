/-! timetables -/
theorem tt_get (k : Nat) {c : St} {s : Nat} (hs : s < 4) : (if nI s < 0 then some ((-1 : Int32), c) else (if 4 ≤ nI s then some ((-1), c) else (if xin (nI s) 4 then some (c.2 k (nI s).toNatClampNeg, c) else none))) = some (c.2 k s, c) := by
  rw [if_neg (nI_pos (by omega)), if_neg (ge4 hs), xi hs (by decide), qcl (by omega)]
theorem g14 {c : St} {s : Nat} (hs : s < 4) : f_Tt_begin_tr (nI s) c = some (c.2 14 s, c) := tt_get 14 hs
theorem g15 {c : St} {s : Nat} (hs : s < 4) : f_Tt_chamberOf_tr (nI s) c = some (c.2 15 s, c) := tt_get 15 hs
theorem g17 {c : St} {s : Nat} (hs : s < 4) : f_Tt_begin_bs (nI s) c = some (c.2 17 s, c) := tt_get 17 hs
theorem g18 {c : St} {s : Nat} (hs : s < 4) : f_Tt_chamberOf_bs (nI s) c = some (c.2 18 s, c) := tt_get 18 hs
theorem g19 {c : St} {s : Nat} (hs : s < 4) : f_Tt_runOf_bs (nI s) c = some (c.2 19 s, c) := tt_get 19 hs
theorem g20 {c : St} {s : Nat} (hs : s < 4) : f_Tt_begin_pv (nI s) c = some (c.2 20 s, c) := tt_get 20 hs
theorem g21 {c : St} {s : Nat} (hs : s < 4) : f_Tt_chamberOf_pv (nI s) c = some (c.2 21 s, c) := tt_get 21 hs
theorem g11 {c : St} {s : Nat} (hs : s < 4) : f_Be_x (nI s) c = some (c.2 11 s, c) := tt_get 11 hs
theorem g12 {c : St} {s : Nat} (hs : s < 4) : f_Be_y (nI s) c = some (c.2 12 s, c) := tt_get 12 hs
theorem all_bit (nS s : Nat) : (2 ^ nS - 1).testBit s = decide (s < nS) := Nat.testBit_two_pow_sub_one nS s
theorem all_lt {nS : Nat} (h : nS ≤ 4) : 2 ^ nS - 1 < 16 := by have := pw_le h; omega
section TT
variable {nC nS nP g o pl : Nat} {d : Nat → Nat → Nat} {c : St}
theorem cb_eq (hA : AbOk nC nS nP g o d) (hC : RC nC nS nP g o d pl c) {t s : Nat} (ht : t < nS) (hs : s < nS) : f_Fl_comesBehind (nI t) (nI s) c = some (if d 9 t = d 9 s ∧ (d 8 s < d 8 t ∨ (d 8 t = d 8 s ∧ s < t)) then 1 else 0, c) := by
  have hn := hA.2.1
  have dt := hA.2.2.2.2.2.2.2 t ht
  have ds := hA.2.2.2.2.2.2.2 s hs
  have R9t := hC.2.2.2.2.2.2 9 (by decide) t
  have R9s := hC.2.2.2.2.2.2 9 (by decide) s
  have R8t := hC.2.2.2.2.2.2 8 (by decide) t
  have R8s := hC.2.2.2.2.2.2 8 (by decide) s
  unfold f_Fl_comesBehind f_Fl_comesBehind_68
  rw [hC.has hA ht, Option.bind_some]
  dsimp only
  rw [if_neg one_ne, hC.has hA hs, Option.bind_some]
  dsimp only
  rw [if_neg one_ne]
  simp only [xi (show t < 4 by omega) (by decide), xi (show s < 4 by omega) (by decide), qcl (show t < 2 ^ 31 by omega), qcl (show s < 2 ^ 31 by omega), R9t, R9s, R8t, R8s]
  by_cases h1 : d 9 t = d 9 s
  · rw [if_pos (by rw [h1])]
    by_cases h2 : d 8 s < d 8 t
    · rw [if_pos (nI_lt h2 (by omega)), if_pos ⟨h1, Or.inl h2⟩]
    · rw [if_neg (fun h => h2 ((nI_ltI (by omega) (by omega)).mp h))]
      by_cases h3 : d 8 t = d 8 s
      · rw [if_pos (by rw [h3])]
        by_cases h4 : s < t
        · rw [if_neg (nI_ge h4 (by omega)), if_pos ⟨h1, Or.inr ⟨h3, h4⟩⟩]
        · rw [if_pos (nI_le (by omega) (by omega)), if_neg (fun h => by omega)]
      · rw [if_neg (fun h => h3 ((nI_eq (by omega) (by omega)).mp h)), if_neg (fun h => by omega)]
  · rw [if_neg (fun h => h1 ((nI_eq (by omega) (by omega)).mp h)), if_neg (fun h => h1 h.1)]
theorem ov_tr_from (hA : AbOk nC nS nP g o d) (hC : RC nC nS nP g o d pl c) {b : Nat → Nat} (hb : ∀ s, s < nS → c.2 14 s = nI (b s) ∧ b s < 2 ^ 31) {s : Nat} (hs : s < nS) : ∀ r t, t + r = nS → ∀ n f, f_Pl_overtaken_tr_5 (f + r + 1) (nI s) (nI n) (nI t) c = some (nI (ovF d b s t r n), c) := by
  have hn := hA.2.1
  intro r
  induction r with
  | zero =>
    intro t ht n f
    have ht : t = nS := by omega
    subst ht
    show b_Pl_overtaken_tr_5 (f_Pl_overtaken_tr_5 f) (nI s) (nI n) (nI t) c = _
    unfold b_Pl_overtaken_tr_5 f_Fl_size
    rw [Option.bind_some]
    dsimp only
    rw [hC.2.2.1, if_pos (nI_le (Nat.le_refl _) (by omega))]
    rfl
  | succ r ih =>
    intro t ht n f
    have e : f_Pl_overtaken_tr_5 (f + (r + 1) + 1) (nI s) (nI n) (nI t) c = b_Pl_overtaken_tr_5 (f_Pl_overtaken_tr_5 (f + r + 1)) (nI s) (nI n) (nI t) c := rfl
    have eF : ovF d b s t (r + 1) n = ovF d b s (t + 1) r (if d 9 t = d 9 s ∧ (d 8 s < d 8 t ∨ (d 8 t = d 8 s ∧ s < t)) ∧ b t < b s then n + 1 else n) := rfl
    rw [e, eF]
    unfold b_Pl_overtaken_tr_5 f_Fl_size f_Pl_overtaken_tr_47
    rw [Option.bind_some]
    dsimp only
    rw [hC.2.2.1, if_neg (nI_ge (by omega) (by omega)), cb_eq hA hC (by omega) hs, Option.bind_some]
    dsimp only
    rw [nI_1]
    by_cases h1 : d 9 t = d 9 s ∧ (d 8 s < d 8 t ∨ (d 8 t = d 8 s ∧ s < t))
    · rw [if_pos h1, if_neg one_ne, g14 (by omega), Option.bind_some]
      dsimp only
      rw [g14 (by omega), Option.bind_some]
      dsimp only
      rw [(hb t (by omega)).1, (hb s hs).1, nI_1]
      by_cases h2 : b t < b s
      · rw [if_neg (nI_ge h2 (hb s hs).2), if_pos ⟨h1.1, h1.2, h2⟩]
        exact ih (t + 1) (by omega) _ f
      · rw [if_pos (nI_le (by omega) (hb t (by omega)).2), if_neg (fun h => h2 h.2.2)]
        exact ih (t + 1) (by omega) _ f
    · rw [if_neg h1, if_pos rfl, if_neg (fun h => h1 ⟨h.1, h.2.1⟩)]
      exact ih (t + 1) (by omega) _ f
theorem ov_tr (hA : AbOk nC nS nP g o d) (hC : RC nC nS nP g o d pl c) {b : Nat → Nat} (hb : ∀ s, s < nS → c.2 14 s = nI (b s) ∧ b s < 2 ^ 31) {s : Nat} (hs : s < nS) : f_Pl_overtaken_tr (nI s) c = some (nI (ovF d b s 0 nS 0), c) := by
  have hn := hA.2.1
  have := ov_tr_from hA hC hb hs nS 0 (by omega) 0 (39 - nS)
  rw [show 39 - nS + nS + 1 = 40 by omega] at this
  exact this
theorem ov_bs_from (hA : AbOk nC nS nP g o d) (hC : RC nC nS nP g o d pl c) {b : Nat → Nat} (hb : ∀ s, s < nS → c.2 17 s = nI (b s) ∧ b s < 2 ^ 31) {s : Nat} (hs : s < nS) : ∀ r t, t + r = nS → ∀ n f, f_Pl_overtaken_bs_5 (f + r + 1) (nI s) (nI n) (nI t) c = some (nI (ovF d b s t r n), c) := by
  have hn := hA.2.1
  intro r
  induction r with
  | zero =>
    intro t ht n f
    have ht : t = nS := by omega
    subst ht
    show b_Pl_overtaken_bs_5 (f_Pl_overtaken_bs_5 f) (nI s) (nI n) (nI t) c = _
    unfold b_Pl_overtaken_bs_5 f_Fl_size
    rw [Option.bind_some]
    dsimp only
    rw [hC.2.2.1, if_pos (nI_le (Nat.le_refl _) (by omega))]
    rfl
  | succ r ih =>
    intro t ht n f
    have e : f_Pl_overtaken_bs_5 (f + (r + 1) + 1) (nI s) (nI n) (nI t) c = b_Pl_overtaken_bs_5 (f_Pl_overtaken_bs_5 (f + r + 1)) (nI s) (nI n) (nI t) c := rfl
    have eF : ovF d b s t (r + 1) n = ovF d b s (t + 1) r (if d 9 t = d 9 s ∧ (d 8 s < d 8 t ∨ (d 8 t = d 8 s ∧ s < t)) ∧ b t < b s then n + 1 else n) := rfl
    rw [e, eF]
    unfold b_Pl_overtaken_bs_5 f_Fl_size f_Pl_overtaken_bs_47
    rw [Option.bind_some]
    dsimp only
    rw [hC.2.2.1, if_neg (nI_ge (by omega) (by omega)), cb_eq hA hC (by omega) hs, Option.bind_some]
    dsimp only
    rw [nI_1]
    by_cases h1 : d 9 t = d 9 s ∧ (d 8 s < d 8 t ∨ (d 8 t = d 8 s ∧ s < t))
    · rw [if_pos h1, if_neg one_ne, g17 (by omega), Option.bind_some]
      dsimp only
      rw [g17 (by omega), Option.bind_some]
      dsimp only
      rw [(hb t (by omega)).1, (hb s hs).1, nI_1]
      by_cases h2 : b t < b s
      · rw [if_neg (nI_ge h2 (hb s hs).2), if_pos ⟨h1.1, h1.2, h2⟩]
        exact ih (t + 1) (by omega) _ f
      · rw [if_pos (nI_le (by omega) (hb t (by omega)).2), if_neg (fun h => h2 h.2.2)]
        exact ih (t + 1) (by omega) _ f
    · rw [if_neg h1, if_pos rfl, if_neg (fun h => h1 ⟨h.1, h.2.1⟩)]
      exact ih (t + 1) (by omega) _ f
theorem ov_bs (hA : AbOk nC nS nP g o d) (hC : RC nC nS nP g o d pl c) {b : Nat → Nat} (hb : ∀ s, s < nS → c.2 17 s = nI (b s) ∧ b s < 2 ^ 31) {s : Nat} (hs : s < nS) : f_Pl_overtaken_bs (nI s) c = some (nI (ovF d b s 0 nS 0), c) := by
  have hn := hA.2.1
  have := ov_bs_from hA hC hb hs nS 0 (by omega) 0 (39 - nS)
  rw [show 39 - nS + nS + 1 = 40 by omega] at this
  exact this
theorem df_tr_bs {s : Nat} (hs : s < 4) : f_Tt_differs_tr_bs (nI s) c = some (if c.2 14 s = c.2 17 s ∧ c.2 15 s = c.2 18 s then 0 else 1, c) := by
  unfold f_Tt_differs_tr_bs f_Tt_differs_tr_bs_26
  rw [g14 hs, Option.bind_some]
  dsimp only
  rw [g17 hs, Option.bind_some]
  dsimp only
  by_cases h1 : c.2 14 s = c.2 17 s
  · rw [if_pos h1, g15 hs, Option.bind_some]
    dsimp only
    rw [g18 hs, Option.bind_some]
    dsimp only
    by_cases h2 : c.2 15 s = c.2 18 s
    · rw [if_pos h2, if_pos ⟨h1, h2⟩]
    · rw [if_neg h2, if_neg (fun h => h2 h.2)]
  · rw [if_neg h1, if_neg (fun h => h1 h.1)]
theorem df_bs_pv {s : Nat} (hs : s < 4) : f_Tt_differs_bs_pv (nI s) c = some (if c.2 17 s = c.2 20 s ∧ c.2 18 s = c.2 21 s then 0 else 1, c) := by
  unfold f_Tt_differs_bs_pv f_Tt_differs_bs_pv_26
  rw [g17 hs, Option.bind_some]
  dsimp only
  rw [g20 hs, Option.bind_some]
  dsimp only
  by_cases h1 : c.2 17 s = c.2 20 s
  · rw [if_pos h1, g18 hs, Option.bind_some]
    dsimp only
    rw [g21 hs, Option.bind_some]
    dsimp only
    by_cases h2 : c.2 18 s = c.2 21 s
    · rw [if_pos h2, if_pos ⟨h1, h2⟩]
    · rw [if_neg h2, if_neg (fun h => h2 h.2)]
  · rw [if_neg h1, if_neg (fun h => h1 h.1)]
theorem ah_from (hA : AbOk nC nS nP g o d) {b b' ch ch' : Nat → Nat} (hb : ∀ s, s < nS → c.2 14 s = nI (b s) ∧ b s < 19000) (hb' : ∀ s, s < nS → c.2 17 s = nI (b' s) ∧ b' s < 19000) (hc : ∀ s, s < nS → c.2 15 s = nI (ch s) ∧ ch s ≤ 1) (hc' : ∀ s, s < nS → c.2 18 s = nI (ch' s) ∧ ch' s ≤ 1) : ∀ r s, s + r = 4 → ∀ acc n, f_Tt_isAheadOf_tr_bs_30 (n + r + 1) (nI (2 ^ nS - 1)) (nI s) c = some (if kF (fun s => 2 * b s + ch s) s (nS - s) acc < kF (fun s => 2 * b' s + ch' s) s (nS - s) acc then 1 else 0, c) := by
  have hn := hA.2.1
  have hal := all_lt hn
  have bd : ∀ s, s < nS → (fun s => 2 * b s + ch s) s < 40000 := fun s hs => by have := (hb s hs).2; have := (hc s hs).2; show 2 * b s + ch s < 40000; omega
  have bd' : ∀ s, s < nS → (fun s => 2 * b' s + ch' s) s < 40000 := fun s hs => by have := (hb' s hs).2; have := (hc' s hs).2; show 2 * b' s + ch' s < 40000; omega
  intro r
  induction r with
  | zero =>
    intro s hs acc n
    have hs : s = 4 := by omega
    subst hs
    rw [show nS - 4 = 0 by omega, if_neg (show ¬ kF (fun s => 2 * b s + ch s) 4 0 acc < kF (fun s => 2 * b' s + ch' s) 4 0 acc from Nat.lt_irrefl acc)]
    show b_Tt_isAheadOf_tr_bs_30 (f_Tt_isAheadOf_tr_bs_30 n) _ (nI 4) c = _
    unfold b_Tt_isAheadOf_tr_bs_30
    rw [if_pos (show (4 : Int32) ≤ nI 4 by decide)]
  | succ r ih =>
    intro s hs acc n
    have hs4 : s < 4 := by omega
    have e : f_Tt_isAheadOf_tr_bs_30 (n + (r + 1) + 1) (nI (2 ^ nS - 1)) (nI s) c = b_Tt_isAheadOf_tr_bs_30 (f_Tt_isAheadOf_tr_bs_30 (n + r + 1)) (nI (2 ^ nS - 1)) (nI s) c := rfl
    rw [e]
    unfold b_Tt_isAheadOf_tr_bs_30 f_Tt_isAheadOf_tr_bs_103 f_Tt_isAheadOf_tr_bs_97
    rw [if_neg (ge4 hs4)]
    by_cases hsn : s < nS
    · rw [holds_t hs4 hal (by rw [all_bit]; exact decide_eq_true hsn), Option.bind_some]
      dsimp only
      rw [if_neg one_ne, df_tr_bs hs4, Option.bind_some]
      dsimp only
      rw [nI_1]
      obtain ⟨b1, b2⟩ := hb s hsn
      obtain ⟨b3, b4⟩ := hb' s hsn
      obtain ⟨c1, c2⟩ := hc s hsn
      obtain ⟨c3, c4⟩ := hc' s hsn
      simp only [xi hs4 (by decide), qcl (show s < 2 ^ 31 by omega), b1, b3, c1, c3]
      rw [show nS - s = (nS - (s + 1)) + 1 by omega]
      have k1 : kF (fun s => 2 * b s + ch s) s ((nS - (s + 1)) + 1) acc = kF (fun s => 2 * b s + ch s) (s + 1) (nS - (s + 1)) (acc * 40000 + (2 * b s + ch s)) := rfl
      have k2 : kF (fun s => 2 * b' s + ch' s) s ((nS - (s + 1)) + 1) acc = kF (fun s => 2 * b' s + ch' s) (s + 1) (nS - (s + 1)) (acc * 40000 + (2 * b' s + ch' s)) := rfl
      rw [k1, k2]
      by_cases q : b s = b' s ∧ ch s = ch' s
      · rw [if_pos (show nI (b s) = nI (b' s) ∧ nI (ch s) = nI (ch' s) by rw [q.1, q.2]; exact ⟨rfl, rfl⟩), if_pos rfl, ih (s + 1) (by omega) (acc * 40000 + (2 * b s + ch s)) n, q.1, q.2]
      · rw [if_neg (show ¬ (nI (b s) = nI (b' s) ∧ nI (ch s) = nI (ch' s)) from fun h => q ⟨(nI_eq (by omega) (by omega)).mp h.1, (nI_eq (by omega) (by omega)).mp h.2⟩), if_neg one_ne]
        rcases Nat.lt_trichotomy (2 * b s + ch s) (2 * b' s + ch' s) with h | h | h
        · rw [if_pos (kF_lt bd bd' (nS - (s + 1)) (s + 1) (acc * 40000 + (2 * b s + ch s)) (acc * 40000 + (2 * b' s + ch' s)) (by omega) (by omega))]
          by_cases h1 : b s < b' s
          · rw [if_pos (nI_lt h1 (by omega))]
          · rw [if_neg (fun h9 => h1 ((nI_ltI (by omega) (by omega)).mp h9)), if_pos (show nI (b s) = nI (b' s) by rw [show b s = b' s by omega]), if_neg (nI_ge (by omega) (by omega))]
        · exfalso; omega
        · rw [if_neg (Nat.lt_asymm (kF_lt bd' bd (nS - (s + 1)) (s + 1) (acc * 40000 + (2 * b' s + ch' s)) (acc * 40000 + (2 * b s + ch s)) (by omega) (by omega))), if_neg (fun h9 => by have := (nI_ltI (by omega) (by omega)).mp h9; omega)]
          by_cases h1 : b s = b' s
          · rw [if_pos (show nI (b s) = nI (b' s) by rw [h1]), if_pos (nI_le (by omega) (by omega))]
          · rw [if_neg (fun h9 => h1 ((nI_eq (by omega) (by omega)).mp h9))]
    · rw [holds_f hs4 hal (by rw [all_bit]; exact decide_eq_false hsn), Option.bind_some]
      dsimp only
      rw [if_pos rfl, nI_1, ih (s + 1) (by omega) acc n, show nS - (s + 1) = 0 by omega, show nS - s = 0 by omega]
      rfl
theorem ah_eq (hA : AbOk nC nS nP g o d) {b b' ch ch' : Nat → Nat} (hb : ∀ s, s < nS → c.2 14 s = nI (b s) ∧ b s < 19000) (hb' : ∀ s, s < nS → c.2 17 s = nI (b' s) ∧ b' s < 19000) (hc : ∀ s, s < nS → c.2 15 s = nI (ch s) ∧ ch s ≤ 1) (hc' : ∀ s, s < nS → c.2 18 s = nI (ch' s) ∧ ch' s ≤ 1) {w w' : Nat} (hw : c.1 4 = nI w) (hw' : c.1 5 = nI w') (h1 : w ≤ 80000) (h2 : w' ≤ 80000) : f_Tt_isAheadOf_tr_bs (nI (2 ^ nS - 1)) c = some (if kF (fun s => 2 * b s + ch s) 0 nS w < kF (fun s => 2 * b' s + ch' s) 0 nS w' then 1 else 0, c) := by
  have bd : ∀ s, s < nS → (fun s => 2 * b s + ch s) s < 40000 := fun s hs => by have := (hb s hs).2; have := (hc s hs).2; show 2 * b s + ch s < 40000; omega
  have bd' : ∀ s, s < nS → (fun s => 2 * b' s + ch' s) s < 40000 := fun s hs => by have := (hb' s hs).2; have := (hc' s hs).2; show 2 * b' s + ch' s < 40000; omega
  unfold f_Tt_isAheadOf_tr_bs
  rw [hw, hw']
  rcases Nat.lt_trichotomy w w' with h | h | h
  · rw [if_neg (fun h9 => by have := (nI_eq (by omega) (by omega)).mp h9; omega), if_neg (nI_ge h (by omega)), if_pos (kF_lt bd bd' nS 0 w w' (by omega) h)]
  · subst h
    rw [if_pos rfl]
    exact ah_from hA hb hb' hc hc' 4 0 rfl w 35
  · rw [if_neg (fun h9 => by have := (nI_eq (by omega) (by omega)).mp h9; omega), if_pos (nI_le (by omega) (by omega)), if_neg (Nat.lt_asymm (kF_lt bd' bd nS 0 w' w (by omega) h))]
def CopyB (s : Nat) (st st' : St) : Prop := (∀ k, k ≠ 5 → st'.1 k = st.1 k) ∧ st'.1 5 = st.1 4 ∧ (∀ k, k ≠ 17 → k ≠ 18 → k ≠ 19 → st'.2 k = st.2 k) ∧ ∀ t, t < 4 → (s ≤ t → st'.2 17 t = st.2 14 t ∧ st'.2 18 t = st.2 15 t ∧ st'.2 19 t = st.2 16 t) ∧ (t < s → st'.2 17 t = st.2 17 t ∧ st'.2 18 t = st.2 18 t ∧ st'.2 19 t = st.2 19 t)
theorem copyB_from : ∀ r s, s + r = 4 → ∀ (st : St), ∀ n, ∃ st', f_Tt_copyFrom_bs_tr_2 (n + r + 1) (nI s) st = some st' ∧ CopyB s st st' := by
  intro r
  induction r with
  | zero =>
    intro s hs st n
    have hs : s = 4 := by omega
    subst hs
    refine ⟨sI st 5 (st.1 4), ?_, fun k hk => by rw [sI_at, if_neg hk], by rw [sI_at, if_pos rfl], fun k _ _ _ => rfl, fun t ht => ⟨fun h => by omega, fun _ => ⟨rfl, rfl, rfl⟩⟩⟩
    show b_Tt_copyFrom_bs_tr_2 (f_Tt_copyFrom_bs_tr_2 n) (nI 4) st = _
    unfold b_Tt_copyFrom_bs_tr_2
    rw [if_pos (show (4 : Int32) ≤ nI 4 by decide), xl]
  | succ r ih =>
    intro s hs st n
    have hs4 : s < 4 := by omega
    have e : f_Tt_copyFrom_bs_tr_2 (n + (r + 1) + 1) (nI s) st = b_Tt_copyFrom_bs_tr_2 (f_Tt_copyFrom_bs_tr_2 (n + r + 1)) (nI s) st := rfl
    rw [e]
    unfold b_Tt_copyFrom_bs_tr_2
    rw [if_neg (ge4 hs4)]
    simp only [xi hs4 (by decide), qcl (show s < 2 ^ 31 by omega), xl, nI_1]
    obtain ⟨st', h1, h2, h3, h4, h5⟩ := ih (s + 1) (by omega) (sA (sA (sA st 17 s (st.2 14 s)) 18 s ((sA st 17 s (st.2 14 s)).2 15 s)) 19 s ((sA (sA st 17 s (st.2 14 s)) 18 s ((sA st 17 s (st.2 14 s)).2 15 s)).2 16 s)) n
    refine ⟨st', h1, h2, h3, fun k p1 p2 p3 => ?_, fun t ht => ⟨fun p => ?_, fun p => ?_⟩⟩
    · rw [h4 k p1 p2 p3]
      funext j
      rw [sA_at, if_neg p3, sA_at, if_neg p2, sA_at, if_neg p1]
    · rcases Nat.eq_or_lt_of_le p with rfl | p
      · obtain ⟨q1, q2, q3⟩ := (h5 s ht).2 (by omega)
        rw [q1, q2, q3]
        simp only [sA_at]
        exact ⟨rfl, rfl, rfl⟩
      · obtain ⟨q1, q2, q3⟩ := (h5 t ht).1 p
        rw [q1, q2, q3]
        simp only [sA_at]
        exact ⟨rfl, rfl, rfl⟩
    · have hne : t ≠ s := by omega
      obtain ⟨q1, q2, q3⟩ := (h5 t ht).2 (by omega)
      rw [q1, q2, q3]
      simp only [sA_at, if_neg hne]
      exact ⟨rfl, rfl, rfl⟩
theorem copyB_eq (st : St) : ∃ st', f_Tt_copyFrom_bs_tr st = some st' ∧ CopyB 0 st st' := copyB_from 4 0 rfl st 35
def CopyP (s : Nat) (st st' : St) : Prop := (∀ k, k ≠ 6 → st'.1 k = st.1 k) ∧ st'.1 6 = st.1 5 ∧ (∀ k, k ≠ 20 → k ≠ 21 → k ≠ 22 → st'.2 k = st.2 k) ∧ ∀ t, t < 4 → (s ≤ t → st'.2 20 t = st.2 17 t ∧ st'.2 21 t = st.2 18 t ∧ st'.2 22 t = st.2 19 t) ∧ (t < s → st'.2 20 t = st.2 20 t ∧ st'.2 21 t = st.2 21 t ∧ st'.2 22 t = st.2 22 t)
theorem copyP_from : ∀ r s, s + r = 4 → ∀ (st : St), ∀ n, ∃ st', f_Tt_copyFrom_pv_bs_2 (n + r + 1) (nI s) st = some st' ∧ CopyP s st st' := by
  intro r
  induction r with
  | zero =>
    intro s hs st n
    have hs : s = 4 := by omega
    subst hs
    refine ⟨sI st 6 (st.1 5), ?_, fun k hk => by rw [sI_at, if_neg hk], by rw [sI_at, if_pos rfl], fun k _ _ _ => rfl, fun t ht => ⟨fun h => by omega, fun _ => ⟨rfl, rfl, rfl⟩⟩⟩
    show b_Tt_copyFrom_pv_bs_2 (f_Tt_copyFrom_pv_bs_2 n) (nI 4) st = _
    unfold b_Tt_copyFrom_pv_bs_2
    rw [if_pos (show (4 : Int32) ≤ nI 4 by decide), xl]
  | succ r ih =>
    intro s hs st n
    have hs4 : s < 4 := by omega
    have e : f_Tt_copyFrom_pv_bs_2 (n + (r + 1) + 1) (nI s) st = b_Tt_copyFrom_pv_bs_2 (f_Tt_copyFrom_pv_bs_2 (n + r + 1)) (nI s) st := rfl
    rw [e]
    unfold b_Tt_copyFrom_pv_bs_2
    rw [if_neg (ge4 hs4)]
    simp only [xi hs4 (by decide), qcl (show s < 2 ^ 31 by omega), xl, nI_1]
    obtain ⟨st', h1, h2, h3, h4, h5⟩ := ih (s + 1) (by omega) (sA (sA (sA st 20 s (st.2 17 s)) 21 s ((sA st 20 s (st.2 17 s)).2 18 s)) 22 s ((sA (sA st 20 s (st.2 17 s)) 21 s ((sA st 20 s (st.2 17 s)).2 18 s)).2 19 s)) n
    refine ⟨st', h1, h2, h3, fun k p1 p2 p3 => ?_, fun t ht => ⟨fun p => ?_, fun p => ?_⟩⟩
    · rw [h4 k p1 p2 p3]
      funext j
      rw [sA_at, if_neg p3, sA_at, if_neg p2, sA_at, if_neg p1]
    · rcases Nat.eq_or_lt_of_le p with rfl | p
      · obtain ⟨q1, q2, q3⟩ := (h5 s ht).2 (by omega)
        rw [q1, q2, q3]
        simp only [sA_at]
        exact ⟨rfl, rfl, rfl⟩
      · obtain ⟨q1, q2, q3⟩ := (h5 t ht).1 p
        rw [q1, q2, q3]
        simp only [sA_at]
        exact ⟨rfl, rfl, rfl⟩
    · have hne : t ≠ s := by omega
      obtain ⟨q1, q2, q3⟩ := (h5 t ht).2 (by omega)
      rw [q1, q2, q3]
      simp only [sA_at, if_neg hne]
      exact ⟨rfl, rfl, rfl⟩
theorem copyP_eq (st : St) : ∃ st', f_Tt_copyFrom_pv_bs st = some st' ∧ CopyP 0 st st' := copyP_from 4 0 rfl st 35
end TT
