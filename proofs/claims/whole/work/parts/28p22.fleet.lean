/-! the class's small functions of the search -/
theorem ge4 {s : Nat} (h : s < 4) : ¬ (4 : Int32) ≤ nI s := nI_ge (b := 4) h (by decide)
theorem ge8 {s : Nat} (h : s < 8) : ¬ (8 : Int32) ≤ nI s := nI_ge (b := 8) h (by decide)
theorem firstN_min {set s : Nat} (hset : set < 16) (hb : set.testBit s = true) (hl : ∀ t, t < s → set.testBit t = false) : firstN set = s := by
  have h0 : set ≠ 0 := fun e => by rw [e, Nat.zero_testBit] at hb; cases hb
  obtain ⟨h1, h2⟩ := firstN_bit hset h0
  rcases Nat.lt_trichotomy (firstN set) s with h | h | h
  · rw [hl _ h] at h1; cases h1
  · exact h
  · rw [h2 _ h] at hb; cases hb
section FL
variable {nC nS nP g o pl : Nat} {d : Nat → Nat → Nat} {c : St}
theorem cd_from {set : Nat} (hset : set < 16) (hd : ∀ s, set.testBit s = true → d 9 s ≤ 1) (hC : RC nC nS nP g o d pl c) (h0 : dirN d set ≤ 1) : ∀ r s, s + r = 4 → (∀ t, t < s → set.testBit t = true → d 9 t = dirN d set) → ∀ n, ∃ x, f_Fl_commonDirection_4 (n + r + 1) (nI set) (nI (dirN d set)) (nI s) c = some (x, c) ∧ ((oneW d set ∧ x = nI (dirN d set)) ∨ (¬ oneW d set ∧ x = -1)) := by
  intro r
  induction r with
  | zero =>
    intro s hs hl n
    have hs : s = 4 := by omega
    subst hs
    refine ⟨_, ?_, Or.inl ⟨fun t h1 h2 => hl t h1 h2, rfl⟩⟩
    show b_Fl_commonDirection_4 (f_Fl_commonDirection_4 n) (nI set) _ (nI 4) c = _
    unfold b_Fl_commonDirection_4
    rw [if_pos (by decide)]
  | succ r ih =>
    intro s hs hl n
    have hs4 : s < 4 := by omega
    have hR := hC.2.2.2.2.2.2 9 (by decide) s
    have e : f_Fl_commonDirection_4 (n + (r + 1) + 1) (nI set) (nI (dirN d set)) (nI s) c = b_Fl_commonDirection_4 (f_Fl_commonDirection_4 (n + r + 1)) (nI set) (nI (dirN d set)) (nI s) c := rfl
    rw [e]
    unfold b_Fl_commonDirection_4
    rw [if_neg (ge4 hs4)]
    cases hb : set.testBit s
    · rw [holds_f hs4 hset hb]
      obtain ⟨x, hx, hor⟩ := ih (s + 1) (by omega) (fun t h1 h2 => by
        rcases Nat.eq_or_lt_of_le (Nat.le_of_lt_succ h1) with rfl | h3
        · rw [hb] at h2; cases h2
        · exact hl t h3 h2) n
      refine ⟨x, ?_, hor⟩
      rw [Option.bind_some]
      dsimp only
      rw [if_pos rfl]
      unfold f_Fl_commonDirection_41
      rw [nI_1]
      exact hx
    · rw [holds_t hs4 hset hb]
      rw [Option.bind_some]
      dsimp only
      rw [if_neg one_ne, if_neg (nI_nm1 (by omega)), xi hs4 (by decide), qcl (by omega), hR]
      have d1 := hd s hb
      by_cases hq : d 9 s = dirN d set
      · obtain ⟨x, hx, hor⟩ := ih (s + 1) (by omega) (fun t h1 h2 => by
          rcases Nat.eq_or_lt_of_le (Nat.le_of_lt_succ h1) with rfl | h3
          · exact hq
          · exact hl t h3 h2) n
        refine ⟨x, ?_, hor⟩
        rw [if_pos (by rw [hq])]
        unfold f_Fl_commonDirection_34 f_Fl_commonDirection_41
        rw [xi hs4 (by decide), xl, qcl (by omega), hR, hq, nI_1]
        exact hx
      · refine ⟨-1, ?_, Or.inr ⟨fun h => hq (h s hs4 hb), rfl⟩⟩
        rw [if_neg (fun h => hq ((nI_eq (by omega) (by omega)).mp h).symm)]
theorem cd_none {set : Nat} (hset : set < 16) (hd : ∀ s, set.testBit s = true → d 9 s ≤ 1) (hC : RC nC nS nP g o d pl c) : ∀ r s, s + r = 4 → (∀ t, t < s → set.testBit t = false) → ∀ n, ∃ x, f_Fl_commonDirection_4 (n + r + 1) (nI set) (-1) (nI s) c = some (x, c) ∧ ((set ≠ 0 ∧ oneW d set ∧ x = nI (dirN d set)) ∨ (¬ (set ≠ 0 ∧ oneW d set) ∧ x = -1)) := by
  intro r
  induction r with
  | zero =>
    intro s hs hl n
    have hs : s = 4 := by omega
    subst hs
    refine ⟨-1, ?_, Or.inr ⟨fun h => h.1 (set_ext hset (by decide) (fun t ht => by rw [hl t ht, Nat.zero_testBit])), rfl⟩⟩
    show b_Fl_commonDirection_4 (f_Fl_commonDirection_4 n) (nI set) _ (nI 4) c = _
    unfold b_Fl_commonDirection_4
    rw [if_pos (by decide)]
  | succ r ih =>
    intro s hs hl n
    have hs4 : s < 4 := by omega
    have hR := hC.2.2.2.2.2.2 9 (by decide) s
    have e : f_Fl_commonDirection_4 (n + (r + 1) + 1) (nI set) (-1) (nI s) c = b_Fl_commonDirection_4 (f_Fl_commonDirection_4 (n + r + 1)) (nI set) (-1) (nI s) c := rfl
    rw [e]
    unfold b_Fl_commonDirection_4
    rw [if_neg (ge4 hs4)]
    cases hb : set.testBit s
    · rw [holds_f hs4 hset hb]
      obtain ⟨x, hx, hor⟩ := ih (s + 1) (by omega) (fun t h1 => by
        rcases Nat.eq_or_lt_of_le (Nat.le_of_lt_succ h1) with rfl | h3
        · exact hb
        · exact hl t h3) n
      refine ⟨x, ?_, hor⟩
      rw [Option.bind_some]
      dsimp only
      rw [if_pos rfl]
      unfold f_Fl_commonDirection_41
      rw [nI_1]
      exact hx
    · rw [holds_t hs4 hset hb]
      have hf := firstN_min hset hb hl
      have hD : dirN d set = d 9 s := by unfold dirN; rw [hf]
      have h0 : set ≠ 0 := fun e => by rw [e, Nat.zero_testBit] at hb; cases hb
      have d1 := hd s hb
      obtain ⟨x, hx, hor⟩ := cd_from hset hd hC (by omega) r (s + 1) (by omega) (fun t h1 h2 => by
        rcases Nat.eq_or_lt_of_le (Nat.le_of_lt_succ h1) with rfl | h3
        · exact hD.symm
        · rw [hl t h3] at h2; cases h2) n
      refine ⟨x, ?_, ?_⟩
      · rw [Option.bind_some]
        dsimp only
        rw [if_neg one_ne, if_pos rfl]
        unfold f_Fl_commonDirection_34 f_Fl_commonDirection_41
        rw [xi hs4 (by decide), xl, qcl (by omega), hR, ← hD, nI_1]
        exact hx
      · rcases hor with ⟨h1, h2⟩ | ⟨h1, h2⟩
        · exact Or.inl ⟨h0, h1, h2⟩
        · exact Or.inr ⟨fun h => h1 h.2, h2⟩
theorem dir_le (hA : AbOk nC nS nP g o d) {set : Nat} (hset : set < 2 ^ nS) : ∀ s, set.testBit s = true → d 9 s ≤ 1 := fun s hb => (hA.2.2.2.2.2.2.2 s (bit_lt hset hb)).2.2.2.2.2.1
theorem dirN_le (hA : AbOk nC nS nP g o d) {set : Nat} (hset : set < 2 ^ nS) (h0 : set ≠ 0) : dirN d set ≤ 1 := by
  have := pw_le hA.2.1
  exact dir_le hA hset _ (firstN_bit (by omega) h0).1
theorem cd_eq (hA : AbOk nC nS nP g o d) {set : Nat} (hset : set < 2 ^ nS) (hC : RC nC nS nP g o d pl c) : ∃ x, f_Fl_commonDirection (nI set) c = some (x, c) ∧ ((set ≠ 0 ∧ oneW d set ∧ x = nI (dirN d set)) ∨ (¬ (set ≠ 0 ∧ oneW d set) ∧ x = -1)) := by
  have h16 := pw_le hA.2.1
  exact cd_none (by omega) (dir_le hA hset) hC 4 0 rfl (fun t ht => by omega) 35
theorem la_from {set : Nat} (hset : set < 16) (hd : ∀ s, set.testBit s = true → d 8 s ≤ 1000) (hC : RC nC nS nP g o d pl c) : ∀ r s, s + r = 4 → ∀ t, t ≤ 1000 → ∀ n, f_Fl_lastArrival_4 (n + r + 1) (nI set) (nI t) (nI s) c = some (nI (arrF d set s r t), c) := by
  intro r
  induction r with
  | zero =>
    intro s hs t ht n
    have hs : s = 4 := by omega
    subst hs
    show b_Fl_lastArrival_4 (f_Fl_lastArrival_4 n) (nI set) _ (nI 4) c = _
    unfold b_Fl_lastArrival_4
    rw [if_pos (by decide)]
    rfl
  | succ r ih =>
    intro s hs t ht n
    have hs4 : s < 4 := by omega
    have hR := hC.2.2.2.2.2.2 8 (by decide) s
    have e : f_Fl_lastArrival_4 (n + (r + 1) + 1) (nI set) (nI t) (nI s) c = b_Fl_lastArrival_4 (f_Fl_lastArrival_4 (n + r + 1)) (nI set) (nI t) (nI s) c := rfl
    have eA : arrF d set s (r + 1) t = arrF d set (s + 1) r (if set.testBit s = true then (if t < d 8 s then d 8 s else t) else t) := rfl
    rw [e, eA]
    unfold b_Fl_lastArrival_4
    rw [if_neg (ge4 hs4)]
    cases hb : set.testBit s
    · rw [holds_f hs4 hset hb]
      rw [Option.bind_some]
      dsimp only
      rw [if_pos rfl]
      unfold f_Fl_lastArrival_28
      rw [nI_1, if_neg (by decide)]
      exact ih (s + 1) (by omega) t ht n
    · rw [holds_t hs4 hset hb]
      have d1 := hd s hb
      rw [Option.bind_some]
      dsimp only
      rw [if_neg one_ne, xi hs4 (by decide), qcl (by omega), hR, if_pos rfl]
      rw [xl]
      unfold f_Fl_lastArrival_28
      rw [nI_1]
      by_cases hq : t < d 8 s
      · rw [if_pos hq, if_pos (nI_lt hq (by omega))]
        exact ih (s + 1) (by omega) _ (by omega) n
      · rw [if_neg hq, if_neg (fun h => hq ((nI_ltI (by omega) (by omega)).mp h))]
        exact ih (s + 1) (by omega) _ (by omega) n
theorem arr_le (hA : AbOk nC nS nP g o d) {set : Nat} (hset : set < 2 ^ nS) : ∀ s, set.testBit s = true → d 8 s ≤ 1000 := fun s hb => (hA.2.2.2.2.2.2.2 s (bit_lt hset hb)).2.2.2.2.1
theorem la_eq (hA : AbOk nC nS nP g o d) {set : Nat} (hset : set < 2 ^ nS) (hC : RC nC nS nP g o d pl c) : f_Fl_lastArrival (nI set) c = some (nI (arrF d set 0 4 0), c) := by
  have h16 := pw_le hA.2.1
  exact la_from (by omega) (arr_le hA hset) hC 4 0 rfl 0 (by omega) 35
theorem pass_from (hA : AbOk nC nS nP g o d) {ch : Nat} (hch : ch < nC) (hC : RC nC nS nP g o d pl c) : ∀ r k, k + r = nP → ∀ v, v ≤ 20000 → ∀ n, f_Ch_pastSpans_12 (n + r + 1) (nI ch) (nI (d 2 ch)) (nI v) (nI k) c = some (nI (spPass d ch k r v), c) := by
  have hP := hA.2.2.1
  have hC2 := hA.1
  have dC := hA.2.2.2.2.2.1 ch hch
  intro r
  induction r with
  | zero =>
    intro k hk v hv n
    have hk : k = nP := by omega
    subst hk
    show b_Ch_pastSpans_12 (f_Ch_pastSpans_12 n) _ _ _ _ c = _
    unfold b_Ch_pastSpans_12
    rw [hC.2.1, if_pos (nI_le (Nat.le_refl _) (by omega)), ite_self]
    rfl
  | succ r ih =>
    intro k hk v hv n
    have dP := hA.2.2.2.2.2.2.1 k (by omega)
    have R3 := hC.2.2.2.2.2.2 3 (by decide) k
    have R4 := hC.2.2.2.2.2.2 4 (by decide) k
    have R5 := hC.2.2.2.2.2.2 5 (by decide) k
    have e : f_Ch_pastSpans_12 (n + (r + 1) + 1) (nI ch) (nI (d 2 ch)) (nI v) (nI k) c = b_Ch_pastSpans_12 (f_Ch_pastSpans_12 (n + r + 1)) (nI ch) (nI (d 2 ch)) (nI v) (nI k) c := rfl
    have eP : spPass d ch k (r + 1) v = spPass d ch (k + 1) r (spStep d ch k v) := rfl
    rw [e, eP]
    unfold b_Ch_pastSpans_12 f_Ch_pastSpans_74 spStep
    rw [if_neg (ge8 (by omega)), hC.2.1, if_neg (nI_ge (by omega) (by omega))]
    simp only [xi (show k < 8 by omega) (by decide), qcl (show k < 2 ^ 31 by omega), R3, R4, R5, nI_1, nI_add, xl]
    by_cases h1 : d 3 k = ch
    · rw [if_pos (by rw [h1])]
      by_cases h2 : v < d 5 k
      · rw [if_neg (nI_ge h2 (by omega))]
        by_cases h3 : d 4 k < v + d 2 ch
        · rw [if_neg (nI_ge h3 (by omega)), if_pos ⟨h1, h2, h3⟩]
          exact ih (k + 1) (by omega) _ (by omega) n
        · rw [if_pos (nI_le (by omega) (by omega)), if_neg (fun h => h3 h.2.2)]
          exact ih (k + 1) (by omega) _ hv n
      · rw [if_pos (nI_le (by omega) (by omega)), if_neg (fun h => h2 h.2.1)]
        exact ih (k + 1) (by omega) _ hv n
    · rw [if_neg (fun h => h1 ((nI_eq (by omega) (by omega)).mp h)), if_neg (fun h => h1 h.1)]
      exact ih (k + 1) (by omega) _ hv n
theorem pass_eq (hA : AbOk nC nS nP g o d) {ch : Nat} (hch : ch < nC) (hC : RC nC nS nP g o d pl c) {v : Nat} (hv : v ≤ 20000) : f_Ch_pastSpans (nI ch) (nI v) c = some (nI (spPass d ch 0 nP v), c) := by
  have hP := hA.2.2.1
  unfold f_Ch_pastSpans
  rw [(ch_get hA hC hch).2.2]
  have := pass_from hA hch hC nP 0 (by omega) v hv (39 - nP)
  rw [show 39 - nP + nP + 1 = 40 by omega] at this
  exact this
theorem open_from (hA : AbOk nC nS nP g o d) {ch : Nat} (hch : ch < nC) (hC : RC nC nS nP g o d pl c) : ∀ r k, k + r = 8 → ∀ v, v ≤ 20000 → ∀ n, f_Ch_firstOpen_5 (n + r + 1) (nI ch) (nI v) (nI k) c = some (nI (spIt d ch nP r v), c) := by
  intro r
  induction r with
  | zero =>
    intro k hk v hv n
    have hk : k = 8 := by omega
    subst hk
    show b_Ch_firstOpen_5 (f_Ch_firstOpen_5 n) _ _ _ c = _
    unfold b_Ch_firstOpen_5
    rw [if_pos (by decide)]
    rfl
  | succ r ih =>
    intro k hk v hv n
    have hB : spPass d ch 0 nP v ≤ 20000 := spPass_le nP 0 v 20000 (fun j _ hj => by have := hA.2.2.2.2.2.2.1 j (by omega); omega) hv
    have e : f_Ch_firstOpen_5 (n + (r + 1) + 1) (nI ch) (nI v) (nI k) c = b_Ch_firstOpen_5 (f_Ch_firstOpen_5 (n + r + 1)) (nI ch) (nI v) (nI k) c := rfl
    rw [e]
    unfold b_Ch_firstOpen_5
    rw [if_neg (ge8 (by omega)), pass_eq hA hch hC hv]
    show (if nI (spPass d ch 0 nP v) = nI v then some (nI v, c) else f_Ch_firstOpen_5 (n + r + 1) (nI ch) (nI (spPass d ch 0 nP v)) (nI k + 1) c) = _
    by_cases h : spPass d ch 0 nP v = v
    · rw [if_pos (by rw [h]), spIt_const h]
    · rw [if_neg (fun h9 => h ((nI_eq (by omega) (by omega)).mp h9)), nI_1]
      exact ih (k + 1) (by omega) _ hB n
theorem open_eq (hA : AbOk nC nS nP g o d) {ch : Nat} (hch : ch < nC) (hC : RC nC nS nP g o d pl c) {v : Nat} (hv : v ≤ 20000) : f_Ch_firstOpen (nI ch) (nI v) c = some (nI (opn d ch nP v), c) := open_from hA hch hC 8 0 rfl v hv 31
theorem wt_from {set b : Nat} (hset : set < 16) (hb20 : b ≤ 20000) (hd : ∀ s, set.testBit s = true → d 8 s ≤ b) (hC : RC nC nS nP g o d pl c) : ∀ r s, s + r = 4 → ∀ t, ∀ n, f_Fl_waiting_5 (n + r + 1) (nI set) (nI b) (nI t) (nI s) c = some (nI (wF d (fun _ => b) set.testBit s r t), c) := by
  intro r
  induction r with
  | zero =>
    intro s hs t n
    have hs : s = 4 := by omega
    subst hs
    show b_Fl_waiting_5 (f_Fl_waiting_5 n) (nI set) _ _ (nI 4) c = _
    unfold b_Fl_waiting_5
    rw [if_pos (by decide)]
    rfl
  | succ r ih =>
    intro s hs t n
    have hs4 : s < 4 := by omega
    have hR := hC.2.2.2.2.2.2 8 (by decide) s
    have e : f_Fl_waiting_5 (n + (r + 1) + 1) (nI set) (nI b) (nI t) (nI s) c = b_Fl_waiting_5 (f_Fl_waiting_5 (n + r + 1)) (nI set) (nI b) (nI t) (nI s) c := rfl
    have eA : wF d (fun _ => b) set.testBit s (r + 1) t = wF d (fun _ => b) set.testBit (s + 1) r (t + if set.testBit s = true then b - d 8 s else 0) := rfl
    rw [e, eA]
    unfold b_Fl_waiting_5
    rw [if_neg (ge4 hs4)]
    cases hb : set.testBit s
    · rw [holds_f hs4 hset hb]
      rw [Option.bind_some]
      dsimp only
      rw [if_pos rfl]
      unfold f_Fl_waiting_32
      rw [nI_1, if_neg (by decide)]
      exact ih (s + 1) (by omega) t n
    · rw [holds_t hs4 hset hb]
      have d1 := hd s hb
      rw [Option.bind_some]
      dsimp only
      rw [if_neg one_ne, xi hs4 (by decide), qcl (by omega), hR, if_pos rfl, pk_sub d1, nI_add]
      rw [xl]
      unfold f_Fl_waiting_32
      rw [nI_1]
      exact ih (s + 1) (by omega) _ n
theorem wt_eq {set b : Nat} (hset : set < 16) (hb20 : b ≤ 20000) (hd : ∀ s, set.testBit s = true → d 8 s ≤ b) (hC : RC nC nS nP g o d pl c) : f_Fl_waiting (nI set) (nI b) c = some (nI (wS d (fun _ => b) set.testBit), c) := wt_from hset hb20 hd hC 4 0 rfl 0 35
/-- trial: a set's run is put down -/
def PutT (set : Nat) (x y z : Int32) (s : Nat) (st st' : St) : Prop := st'.1 = st.1 ∧ (∀ k, k ≠ 14 → k ≠ 15 → k ≠ 16 → st'.2 k = st.2 k) ∧ ∀ t, t < 4 → (set.testBit t = true → s ≤ t → st'.2 14 t = z ∧ st'.2 15 t = x ∧ st'.2 16 t = y) ∧ ((set.testBit t = false ∨ t < s) → st'.2 14 t = st.2 14 t ∧ st'.2 15 t = st.2 15 t ∧ st'.2 16 t = st.2 16 t)
theorem put_from {set : Nat} (hset : set < 16) (x y z : Int32) : ∀ r s, s + r = 4 → ∀ (st : St), ∀ n, ∃ st', f_Tt_put_tr_3 (n + r + 1) (nI set) x y z (nI s) st = some st' ∧ PutT set x y z s st st' := by
  intro r
  induction r with
  | zero =>
    intro s hs st n
    have hs : s = 4 := by omega
    subst hs
    refine ⟨st, ?_, rfl, fun _ _ _ _ => rfl, fun t ht => ⟨fun _ h => by omega, fun _ => ⟨rfl, rfl, rfl⟩⟩⟩
    show b_Tt_put_tr_3 (f_Tt_put_tr_3 n) (nI set) _ _ _ (nI 4) st = _
    unfold b_Tt_put_tr_3
    rw [if_pos (by decide)]
  | succ r ih =>
    intro s hs st n
    have hs4 : s < 4 := by omega
    have e : f_Tt_put_tr_3 (n + (r + 1) + 1) (nI set) x y z (nI s) st = b_Tt_put_tr_3 (f_Tt_put_tr_3 (n + r + 1)) (nI set) x y z (nI s) st := rfl
    rw [e]
    unfold b_Tt_put_tr_3
    rw [if_neg (ge4 hs4)]
    cases hb : set.testBit s
    · rw [holds_f hs4 hset hb]
      obtain ⟨st', h1, h2, h3, h4⟩ := ih (s + 1) (by omega) st n
      refine ⟨st', ?_, h2, h3, fun t ht => ⟨fun p q => (h4 t ht).1 p ?_, fun p => (h4 t ht).2 ?_⟩⟩
      · rw [Option.bind_some]
        dsimp only
        rw [if_pos rfl]
        unfold f_Tt_put_tr_43
        rw [nI_1]
        exact h1
      · rcases Nat.eq_or_lt_of_le q with rfl | q
        · rw [hb] at p; cases p
        · exact q
      · rcases p with p | p
        · exact Or.inl p
        · exact Or.inr (by omega)
    · rw [holds_t hs4 hset hb]
      obtain ⟨st', h1, h2, h3, h4⟩ := ih (s + 1) (by omega) (sA (sA (sA st 14 s z) 15 s x) 16 s y) n
      refine ⟨st', ?_, h2, fun k p1 p2 p3 => ?_, fun t ht => ⟨fun p q => ?_, fun p => ?_⟩⟩
      · rw [Option.bind_some]
        dsimp only
        rw [if_neg one_ne, xi hs4 (by decide), xl, xi hs4 (by decide), xl, xi hs4 (by decide), xl, qcl (by omega)]
        unfold f_Tt_put_tr_43
        rw [nI_1]
        exact h1
      · rw [h3 k p1 p2 p3]
        funext j
        rw [sA_at, if_neg p3, sA_at, if_neg p2, sA_at, if_neg p1]
      · rcases Nat.eq_or_lt_of_le q with rfl | q
        · obtain ⟨q1, q2, q3⟩ := (h4 s ht).2 (Or.inr (by omega))
          rw [q1, q2, q3]
          simp only [sA_at]
          exact ⟨rfl, rfl, rfl⟩
        · exact (h4 t ht).1 p q
      · have hne : t ≠ s := by
          rintro rfl
          rcases p with p | p
          · rw [hb] at p; cases p
          · omega
        obtain ⟨q1, q2, q3⟩ := (h4 t ht).2 (by
          rcases p with p | p
          · exact Or.inl p
          · exact Or.inr (by omega))
        rw [q1, q2, q3]
        simp only [sA_at, if_neg hne]
        exact ⟨rfl, rfl, rfl⟩
theorem put_eq {set : Nat} (hset : set < 16) (x y z : Int32) (st : St) : ∃ st', f_Tt_put_tr (nI set) x y z st = some st' ∧ PutT set x y z 0 st st' := put_from hset x y z 4 0 rfl st 35
end FL
