/-! the reference's laying: back and forth -/
def pMS (d : Nat → Nat → Nat) (g ch set s : Nat) (L at8 : Nat → Nat) : Prop := pSol d g ch set 0 0 at8 ∧ ∀ t, t < s → set.testBit t = true → at8 t = L t
def pFF (d : Nat → Nat → Nat) (g ch set s A : Nat) (L at9 : Nat → Nat) : Prop := pMS d g ch set s L at9 ∧ ∀ at8, pMS d g ch set s L at8 → (set.testBit s = true → A ≤ at8 s) → ∀ t, s ≤ t → t < 4 → set.testBit t = true → (∀ u, s ≤ u → u < t → set.testBit u = true → at8 u = at9 u) → at9 t ≤ at8 t
def pPre (d : Nat → Nat → Nat) (g ch set s : Nat) (L : Nat → Nat) : Prop := ∀ t, t < s → set.testBit t = true → pMay d g ch set t L (L t)
theorem pMay_congr {d : Nat → Nat → Nat} {g ch set s a : Nat} {L L' : Nat → Nat} (h : ∀ t, t < s → set.testBit t = true → L t = L' t) (H : pMay d g ch set s L a) : pMay d g ch set s L' a := ⟨H.1, fun t h1 h2 => by rw [← h t h1 h2]; exact H.2 t h1 h2⟩
theorem ms_may {d : Nat → Nat → Nat} {g ch set s : Nat} {L at8 : Nat → Nat} (hs : s < 4) (hb : set.testBit s = true) (h : pMS d g ch set s L at8) : pMay d g ch set s L (at8 s) := by
  obtain ⟨p1, -, p3⟩ := h.1 s (Nat.zero_le _) hs hb
  exact ⟨p1, fun t h1 h2 => by rw [← h.2 t h1 h2]; exact p3 t (Nat.zero_le _) h1 h2⟩
/-- how many steps the rest of the ships can take -/
def pT : Nat → Nat
  | 0 => 0
  | r + 1 => 25 * (1 + pT r)
section LM2
variable {nC nS nP g o pl : Nat} {d : Nat → Nat → Nat} {ch set : Nat}
def LaidM (d : Nat → Nat → Nat) (g ch set nS s A r : Nat) (L : Nat → Nat) (v : St) : Prop := ∃ m v', m ≤ (25 - A) * (1 + pT r) ∧ KeepM s v v' ∧
  ((∃ at9, pFF d g ch set s A L at9 ∧ (∀ t, t < nS → v'.2 11 t = nI (at9 t) ∧ at9 t < 24) ∧ ∀ n, f_Mo_lay_9 (n + m + 1) (nI ch) (nI set) (nI s) v = some (1, v')) ∨
   ((∀ at8, pMS d g ch set s L at8 → (set.testBit s = true → A ≤ at8 s) → False) ∧ ∀ n, f_Mo_lay_9 (n + m) (nI ch) (nI set) (nI s) v = f_Mo_lay_9 n (nI ch) (nI set) (nI s + (-1)) v'))
theorem xl {α β : Type} (v : α) (f : α → β) : xlet v f = f v := Eq.trans rfl rfl
theorem m107 (K9 : Int32 → Int32 → Int32 → St → Option (Int32 × St)) (x1 x2 x4 : Int32) {s : Nat} (b5 : s < 4) {v : St} : f_Mo_lay_107 K9 x1 x2 (nI s) x4 0 v = K9 x1 x2 (nI s + (-1)) (sA v 11 s x4) ∧ f_Mo_lay_107 K9 x1 x2 (nI s) x4 1 v = K9 x1 x2 (nI (s + 1)) (sA (sA v 11 s x4) 11 (s + 1) (-1)) := by
  constructor
  · unfold f_Mo_lay_107
    rw [xi (show s < 5 by omega) (by decide), qcl (by omega), xl, if_pos rfl]
    unfold f_Mo_lay_128 f_Mo_lay_142
    rw [xl, if_pos rfl]
  · unfold f_Mo_lay_107
    rw [xi (show s < 5 by omega) (by decide), qcl (by omega), xl, if_neg one_ne]
    unfold f_Mo_lay_128 f_Mo_lay_142
    rw [xl, if_neg one_ne, nI_1, xi (show s + 1 < 5 by omega) (by decide), xl, qcl (show s + 1 < 2 ^ 31 by omega)]
theorem m86 (K9 : Int32 → Int32 → Int32 → St → Option (Int32 × St)) (x1 x2 x4 : Int32) {s : Nat} (b5 : s < 4) {v : St} : f_Mo_lay_86 K9 x1 x2 (nI s) x4 1 v = if (24 : Int32) ≤ x4 then K9 x1 x2 (nI s + (-1)) (sA v 11 s x4) else K9 x1 x2 (nI (s + 1)) (sA (sA v 11 s x4) 11 (s + 1) (-1)) := by
  unfold f_Mo_lay_86
  rw [if_neg one_ne]
  unfold f_Mo_lay_99
  rw [(m107 K9 x1 x2 x4 b5).1, (m107 K9 x1 x2 x4 b5).2]
theorem m86' (K9 : Int32 → Int32 → Int32 → St → Option (Int32 × St)) (x1 x2 x4 : Int32) {s : Nat} (b5 : s < 4) {v : St} : f_Mo_lay_86 K9 x1 x2 (nI s) x4 0 v = if (1 : Int32) ≤ x4 then K9 x1 x2 (nI s + (-1)) (sA v 11 s x4) else K9 x1 x2 (nI (s + 1)) (sA (sA v 11 s x4) 11 (s + 1) (-1)) := by
  unfold f_Mo_lay_86
  rw [if_pos rfl]
  unfold f_Mo_lay_99
  rw [(m107 K9 x1 x2 x4 b5).1, (m107 K9 x1 x2 x4 b5).2]
theorem l45 : ∃ N, 30 ≤ N ∧ ∀ K9 x1 x2 x3 x4 y0 st, f_Mo_lay_45 K9 x1 x2 x3 x4 y0 st = f_Mo_lay_47 K9 N x1 x2 x3 x4 y0 st := ⟨40, by decide, fun _ _ _ _ _ _ _ => rfl⟩
/-- one visit of a ship in the set -/
theorem visit_in (hA : AbOk nC nS nP g o d) (hch : ch < nC) (hset : set < 16) {s A : Nat} (hs : s < nS) (hb : set.testBit s = true) (hA24 : A ≤ 24) {v : St} (hM : RM nC nS nP g o d pl v) {L : Nat → Nat} (hL : ∀ t, t < s → v.2 11 t = nI (L t) ∧ L t < 24) (hv : v.2 11 s + 1 = nI A) :
    ∃ a', A ≤ a' ∧ a' ≤ 24 ∧ (∀ b, A ≤ b → b < a' → ¬ pMay d g ch set s L b) ∧
      ((a' < 24 ∧ pMay d g ch set s L a' ∧ ∀ n, f_Mo_lay_9 (n + 1) (nI ch) (nI set) (nI s) v = f_Mo_lay_9 n (nI ch) (nI set) (nI (s + 1)) (sA (sA v 11 s (nI a')) 11 (s + 1) (-1))) ∨
       (a' = 24 ∧ ∀ n, f_Mo_lay_9 (n + 1) (nI ch) (nI set) (nI s) v = f_Mo_lay_9 n (nI ch) (nI set) (nI s + (-1)) (sA v 11 s (nI a')))) := by
  have hn4 := hA.2.1
  obtain ⟨N, hN, e45⟩ := l45
  have b5 : s < 5 := by omega
  have b5' : s + 1 < 5 := by omega
  have q := qb1 (set := set) (s := s) (by omega) (by omega)
  rw [← z1, ← z31] at q
  have e1 : ∀ n, f_Mo_lay_9 (n + 1) (nI ch) (nI set) (nI s) v = f_Mo_lay_47 (f_Mo_lay_9 n) N (nI ch) (nI set) (nI s) (nI A) 1 v := by
    intro n
    show b_Mo_lay_9 (f_Mo_lay_9 n) (nI ch) (nI set) (nI s) v = _
    unfold b_Mo_lay_9
    rw [if_neg (nI_pos (by omega)), hM.2.1, if_neg (nI_ge hs (by omega)), xi b5 (by decide)]
    rw [xl, qcl (show s < 2 ^ 31 by omega), hv]
    rw [if_pos (q.mpr hb)]
    exact e45 _ _ _ _ _ _ _
  obtain ⟨a', p1, p2, p3, p4, -⟩ := next_eq hA hch hset hs hM hL (f_Mo_lay_9 0) N A hA24 (by omega)
  have e2 : ∀ n, f_Mo_lay_47 (f_Mo_lay_9 n) N (nI ch) (nI set) (nI s) (nI A) 1 v = f_Mo_lay_86 (f_Mo_lay_9 n) (nI ch) (nI set) (nI s) (nI a') 1 v := by
    intro n
    obtain ⟨a2, r1, r2, r3, r4, r5⟩ := next_eq hA hch hset hs hM hL (f_Mo_lay_9 n) N A hA24 (by omega)
    have : a2 = a' := by
      rcases Nat.lt_trichotomy a2 a' with h | h | h
      · exact absurd (r4 (by omega)) (p3 a2 r1 h)
      · exact h
      · exact absurd (p4 (by omega)) (r3 a' p1 h)
    rw [r5, this]
  refine ⟨a', p1, p2, p3, ?_⟩
  have e3 : ∀ n, _ := fun n => m86 (f_Mo_lay_9 n) (nI ch) (nI set) (nI a') (s := s) (v := v) (by omega)
  rcases Nat.eq_or_lt_of_le p2 with rfl | h24
  · refine Or.inr ⟨rfl, fun n => ?_⟩
    rw [e1, e2, e3, if_pos (by decide)]
  · refine Or.inl ⟨h24, p4 h24, fun n => ?_⟩
    rw [e1, e2, e3, if_neg (show ¬ (24 : Int32) ≤ nI a' from nI_ge (b := 24) h24 (by decide))]
theorem visit_out (hA : AbOk nC nS nP g o d) (hset : set < 16) {s A : Nat} (hs : s < nS) (hb : set.testBit s = false) (hA24 : A ≤ 1) {v : St} (hM : RM nC nS nP g o d pl v) (hv : v.2 11 s + 1 = nI A) (n : Nat) :
    f_Mo_lay_9 (n + 1) (nI ch) (nI set) (nI s) v = if A = 0 then f_Mo_lay_9 n (nI ch) (nI set) (nI (s + 1)) (sA (sA v 11 s (nI A)) 11 (s + 1) (-1)) else f_Mo_lay_9 n (nI ch) (nI set) (nI s + (-1)) (sA v 11 s (nI A)) := by
  have hn4 := hA.2.1
  obtain ⟨N, hN, e45⟩ := l45
  have b5 : s < 5 := by omega
  have b5' : s + 1 < 5 := by omega
  have q := qb1 (set := set) (s := s) (by omega) (by omega)
  rw [← z1, ← z31] at q
  show b_Mo_lay_9 (f_Mo_lay_9 n) (nI ch) (nI set) (nI s) v = _
  unfold b_Mo_lay_9
  rw [if_neg (nI_pos (by omega)), hM.2.1, if_neg (nI_ge hs (by omega)), xi b5 (by decide)]
  rw [xl, qcl (show s < 2 ^ 31 by omega), hv]
  rw [if_neg (fun h => by have := q.mp h; rw [hb] at this; cases this)]
  rw [e45]
  have e47 : ∀ n', f_Mo_lay_47 (f_Mo_lay_9 n) (n' + 1) (nI ch) (nI set) (nI s) (nI A) 0 v = if A = 0 then f_Mo_lay_9 n (nI ch) (nI set) (nI (s + 1)) (sA (sA v 11 s (nI A)) 11 (s + 1) (-1)) else f_Mo_lay_9 n (nI ch) (nI set) (nI s + (-1)) (sA v 11 s (nI A)) := by
    intro n'
    show b_Mo_lay_47 (f_Mo_lay_9 n) (f_Mo_lay_47 (f_Mo_lay_9 n) n') (nI ch) (nI set) (nI s) (nI A) 0 v = _
    unfold b_Mo_lay_47
    rw [if_pos rfl]
    unfold f_Mo_lay_60
    rw [if_pos (show (0 : Int32) = 0 from rfl), ite_self, m86' _ _ _ _ (by omega)]
    rcases (show A = 0 ∨ A = 1 by omega) with rfl | rfl
    · rw [if_neg (show ¬ (1 : Int32) ≤ nI 0 by decide), if_pos rfl]
    · rw [if_pos (show (1 : Int32) ≤ nI 1 by decide), if_neg (by decide)]
  have := e47 (N - 1)
  rw [show N - 1 + 1 = N by omega] at this
  exact this
theorem put_L {v : St} {s a : Nat} {L : Nat → Nat} (hL : ∀ t, t < s → v.2 11 t = nI (L t) ∧ L t < 24) (ha : a < 24) : ∀ t, t < s + 1 → (sA (sA v 11 s (nI a)) 11 (s + 1) (-1)).2 11 t = nI (putAt L s a t) ∧ putAt L s a t < 24 := by
  intro t ht
  rw [sA_at, if_pos rfl, if_neg (by omega), sA_at, if_pos rfl]
  by_cases h : t = s
  · subst h
    rw [if_pos rfl, putAt_same]
    exact ⟨rfl, ha⟩
  · rw [if_neg h, putAt_ne L h]
    exact hL t (by omega)
theorem put_new {v : St} {s : Nat} {x : Int32} : (sA (sA v 11 s x) 11 (s + 1) (-1)).2 11 (s + 1) + 1 = nI 0 := by
  rw [sA_at, if_pos rfl, if_pos rfl]
  decide
theorem keep_put {v : St} {s : Nat} {x : Int32} : KeepM s v (sA (sA v 11 s x) 11 (s + 1) (-1)) := (KeepM.put (Nat.le_refl _) x).tr (KeepM.put (by omega) _) (Nat.le_refl _)
/-- one ship, over the ships behind it -/
theorem ship_in (hA : AbOk nC nS nP g o d) (hch : ch < nC) (hset : set < 2 ^ nS) {s r : Nat} (hsr : s + (r + 1) = nS) (hb : set.testBit s = true)
    (IH : ∀ (L : Nat → Nat) (v : St), RM nC nS nP g o d pl v → (∀ t, t < s + 1 → v.2 11 t = nI (L t) ∧ L t < 24) → pPre d g ch set (s + 1) L → v.2 11 (s + 1) + 1 = nI 0 → ∃ m v', m ≤ pT r ∧ KeepM (s + 1) v v' ∧
      ((∃ at9, pFF d g ch set (s + 1) 0 L at9 ∧ (∀ t, t < nS → v'.2 11 t = nI (at9 t) ∧ at9 t < 24) ∧ ∀ n, f_Mo_lay_9 (n + m + 1) (nI ch) (nI set) (nI (s + 1)) v = some (1, v')) ∨
       ((∀ at8, pMS d g ch set (s + 1) L at8 → False) ∧ ∀ n, f_Mo_lay_9 (n + m) (nI ch) (nI set) (nI (s + 1)) v = f_Mo_lay_9 n (nI ch) (nI set) (nI s) v')))
    (L : Nat → Nat) (hP : pPre d g ch set s L) : ∀ k A, A + k = 24 → ∀ v, RM nC nS nP g o d pl v → (∀ t, t < s → v.2 11 t = nI (L t) ∧ L t < 24) → v.2 11 s + 1 = nI A → LaidM d g ch set nS s A r L v := by
  have hn4 := hA.2.1
  have h16 := pw_le hn4
  have hs : s < nS := by omega
  intro k
  induction k using Nat.strongRecOn with
  | ind k ihk =>
    intro A hAk v hM hL hv
    obtain ⟨a', p1, p2, p3, ⟨h24, hmay, h⟩ | ⟨rfl, h⟩⟩ := visit_in hA hch (by omega) hs hb (by omega) hM hL hv
    · have hnot : ∀ at8, pMS d g ch set s L at8 → (set.testBit s = true → A ≤ at8 s) → a' ≤ at8 s := fun at8 h8 h9 => by
        rcases Nat.lt_or_ge (at8 s) a' with h1 | h1
        · exact absurd (ms_may (by omega) hb h8) (p3 _ (h9 hb) h1)
        · exact h1
      have hms : ∀ at8, pMS d g ch set s L at8 → at8 s = a' → pMS d g ch set (s + 1) (putAt L s a') at8 := fun at8 h8 e => ⟨h8.1, fun t h1 h2 => by
        by_cases h3 : t = s
        · rw [h3, putAt_same, e]
        · rw [putAt_ne L h3]; exact h8.2 t (by omega) h2⟩
      have hsm : ∀ at8, pMS d g ch set (s + 1) (putAt L s a') at8 → pMS d g ch set s L at8 ∧ at8 s = a' := fun at8 h8 => ⟨⟨h8.1, fun t h1 h2 => by
          rw [h8.2 t (by omega) h2, putAt_ne L (by omega)]⟩, by rw [h8.2 s (by omega) hb, putAt_same]⟩
      obtain ⟨m, v', hm, hk, hor⟩ := IH (putAt L s a') _ (keep_put.RM hM) (put_L hL h24) (fun t h1 h2 => by
        by_cases h3 : t = s
        · subst h3
          rw [putAt_same]
          exact pMay_congr (fun u hu _ => (putAt_ne L (by omega)).symm) hmay
        · rw [putAt_ne L h3]
          exact pMay_congr (fun u hu _ => (putAt_ne L (by omega)).symm) (hP t (by omega) h2)) put_new
      have hk2 : KeepM s v v' := keep_put.tr hk (by omega)
      rcases hor with ⟨at9, hf, hat, hrun⟩ | ⟨hno, hrun⟩
      · obtain ⟨f1, f2⟩ := hsm at9 hf.1
        refine ⟨m + 1, v', ?_, hk2, Or.inl ⟨at9, ⟨f1, fun at8 h8 h9 t h1 h2 h3 h4 => ?_⟩, hat, fun n => ?_⟩⟩
        · have : (25 - A) * (1 + pT r) = (24 - A) * (1 + pT r) + (1 + pT r) := by
            rw [show 25 - A = (24 - A) + 1 by omega, Nat.add_mul, Nat.one_mul]
          omega
        · rcases Nat.eq_or_lt_of_le h1 with rfl | h1
          · rw [f2]; exact hnot at8 h8 h9
          · have e := h4 s (Nat.le_refl _) h1 hb
            exact hf.2 at8 (hms at8 h8 (by rw [e, f2])) (fun _ => Nat.zero_le _) t h1 h2 h3 (fun u h5 h6 h7 => h4 u (by omega) h6 h7)
        · rw [show n + (m + 1) + 1 = (n + m + 1) + 1 by omega, h, hrun]
      · have hv' : v'.2 11 s + 1 = nI (a' + 1) := by
          rw [hk.2.2 s (by omega), (put_L hL h24 s (by omega)).1, putAt_same, nI_1]
        obtain ⟨m2, v2, hm2, hk3, hor2⟩ := ihk (24 - (a' + 1)) (by omega) (a' + 1) (by omega) v' (hk2.RM hM) (fun t ht => by rw [hk2.2.2 t ht]; exact hL t ht) hv'
        have hne : ∀ at8, pMS d g ch set s L at8 → (set.testBit s = true → A ≤ at8 s) → a' + 1 ≤ at8 s := fun at8 h8 h9 => by
          have h1 := hnot at8 h8 h9
          rcases Nat.eq_or_lt_of_le h1 with h1 | h1
          · exact absurd (hms at8 h8 h1.symm) (hno at8)
          · exact h1
        have hb1 : m + 1 + m2 ≤ (25 - A) * (1 + pT r) := by
          have e1 : (25 - A) * (1 + pT r) = (24 - A) * (1 + pT r) + (1 + pT r) := by
            rw [show 25 - A = (24 - A) + 1 by omega, Nat.add_mul, Nat.one_mul]
          have e2 : (25 - (a' + 1)) * (1 + pT r) ≤ (24 - A) * (1 + pT r) := Nat.mul_le_mul_right _ (by omega)
          omega
        refine ⟨m + 1 + m2, v2, hb1, hk2.tr hk3 (Nat.le_refl _), ?_⟩
        rcases hor2 with ⟨at9, hf, hat, hrun2⟩ | ⟨hno2, hrun2⟩
        · refine Or.inl ⟨at9, ⟨hf.1, fun at8 h8 h9 => hf.2 at8 h8 (fun _ => hne at8 h8 h9)⟩, hat, fun n => ?_⟩
          rw [show n + (m + 1 + m2) + 1 = (n + m2 + 1 + m) + 1 by omega, h, hrun, hrun2]
        · refine Or.inr ⟨fun at8 h8 h9 => hno2 at8 h8 (fun _ => hne at8 h8 h9), fun n => ?_⟩
          rw [show n + (m + 1 + m2) = (n + m2 + m) + 1 by omega, h, hrun, hrun2]
    · refine ⟨1, sA v 11 s (nI 24), ?_, KeepM.put (Nat.le_refl _) _, Or.inr ⟨fun at8 h8 h9 => ?_, fun n => h n⟩⟩
      · have : (25 - A) * (1 + pT r) = (24 - A) * (1 + pT r) + (1 + pT r) := by
          rw [show 25 - A = (24 - A) + 1 by omega, Nat.add_mul, Nat.one_mul]
        omega
      · have h1 := sol_lt hA hch hset h8.1 hb
        exact absurd (ms_may (by omega) hb h8) (p3 _ (h9 hb) h1)
theorem lay_from (hA : AbOk nC nS nP g o d) (hch : ch < nC) (hset : set < 2 ^ nS) : ∀ r s, s + r = nS → ∀ (L : Nat → Nat) (v : St), RM nC nS nP g o d pl v → (∀ t, t < s → v.2 11 t = nI (L t) ∧ L t < 24) → pPre d g ch set s L → v.2 11 s + 1 = nI 0 → ∃ m v', m ≤ pT r ∧ KeepM s v v' ∧
      ((∃ at9, pFF d g ch set s 0 L at9 ∧ (∀ t, t < nS → v'.2 11 t = nI (at9 t) ∧ at9 t < 24) ∧ ∀ n, f_Mo_lay_9 (n + m + 1) (nI ch) (nI set) (nI s) v = some (1, v')) ∨
       ((∀ at8, pMS d g ch set s L at8 → False) ∧ ∀ n, f_Mo_lay_9 (n + m) (nI ch) (nI set) (nI s) v = f_Mo_lay_9 n (nI ch) (nI set) (nI s + (-1)) v')) := by
  have hn4 := hA.2.1
  have h16 := pw_le hn4
  intro r
  induction r with
  | zero =>
    intro s hs L v hM hL hP hv
    have hs : s = nS := by omega
    subst hs
    refine ⟨0, v, Nat.le_refl _, KeepM.rf, Or.inl ⟨L, ⟨⟨fun t _ h2 h3 => ?_, fun t _ _ => rfl⟩, fun at8 _ _ t h1 h2 h3 => ?_⟩, hL, fun n => ?_⟩⟩
    · have ht := bit_lt hset h3
      obtain ⟨p1, p2⟩ := hP t ht h3
      exact ⟨p1, fun i j _ _ _ _ => Nat.zero_testBit _, fun u _ h5 h6 => p2 u h5 h6⟩
    · have := bit_lt hset h3
      omega
    · show b_Mo_lay_9 (f_Mo_lay_9 n) (nI ch) (nI set) (nI s) v = _
      unfold b_Mo_lay_9 f_Mo_lay_145
      rw [if_neg (nI_pos (by omega)), hM.2.1, if_pos (nI_le (Nat.le_refl _) (by omega)), if_pos rfl]
  | succ r ih =>
    intro s hs L v hM hL hP hv
    have m1 : ∀ s : Nat, nI (s + 1) + (-1) = nI s := pk_m1
    have IH := ih (s + 1) (by omega)
    cases hb : set.testBit s
    · obtain ⟨m, v', hm, hk, hor⟩ := IH (putAt L s 0) _ (keep_put.RM hM) (put_L hL (by decide)) (fun t h1 h2 => by
        have h3 : t ≠ s := fun e => by rw [e, hb] at h2; cases h2
        rw [putAt_ne L h3]
        exact pMay_congr (fun u hu _ => (putAt_ne L (by omega)).symm) (hP t (by omega) h2)) put_new
      have hk2 : KeepM s v v' := keep_put.tr hk (by omega)
      have hms : ∀ at8, pMS d g ch set (s + 1) (putAt L s 0) at8 ↔ pMS d g ch set s L at8 := fun at8 => by
        constructor
        · intro h8
          exact ⟨h8.1, fun t h1 h2 => by rw [h8.2 t (by omega) h2, putAt_ne L (by omega)]⟩
        · intro h8
          refine ⟨h8.1, fun t h1 h2 => ?_⟩
          have h3 : t ≠ s := fun e => by rw [e, hb] at h2; cases h2
          rw [putAt_ne L h3]
          exact h8.2 t (by omega) h2
      have e0 := visit_out (ch := ch) hA (by omega) (by omega) hb (by omega) hM hv
      have hT : pT (r + 1) = 25 * (1 + pT r) := rfl
      rcases hor with ⟨at9, hf, hat, hrun⟩ | ⟨hno, hrun⟩
      · refine ⟨m + 1, v', by omega, hk2, Or.inl ⟨at9, ⟨(hms at9).mp hf.1, fun at8 h8 h9 t h1 h2 h3 h4 => ?_⟩, hat, fun n => ?_⟩⟩
        · have h5 : t ≠ s := fun e => by rw [e, hb] at h3; cases h3
          exact hf.2 at8 ((hms at8).mpr h8) (fun _ => Nat.zero_le _) t (by omega) h2 h3 (fun u h5 h6 h7 => h4 u (by omega) h6 h7)
        · rw [show n + (m + 1) + 1 = (n + m + 1) + 1 by omega, e0, if_pos rfl, hrun]
      · have hv' : v'.2 11 s + 1 = nI 1 := by
          rw [hk.2.2 s (by omega), (put_L hL (by decide) s (by omega)).1, putAt_same, nI_1]
        have e1 := visit_out (ch := ch) hA (by omega) (by omega) hb (by omega) (hk2.RM hM) hv'
        refine ⟨m + 2, sA v' 11 s (nI 1), by omega, hk2.tr (KeepM.put (Nat.le_refl _) _) (Nat.le_refl _), Or.inr ⟨fun at8 h8 => hno at8 ((hms at8).mpr h8), fun n => ?_⟩⟩
        rw [show n + (m + 2) = (n + 1 + m) + 1 by omega, e0, if_pos rfl, hrun, m1, e1, if_neg (by decide)]
    · obtain ⟨m, v', hm, hk, hor⟩ := ship_in hA hch hset hs hb (fun L v h1 h2 h3 h4 => by
        obtain ⟨m, v', q1, q2, q3⟩ := IH L v h1 h2 h3 h4
        refine ⟨m, v', q1, q2, ?_⟩
        rcases q3 with q3 | ⟨q4, q5⟩
        · exact Or.inl q3
        · exact Or.inr ⟨q4, fun n => by rw [q5, m1]⟩) L hP 24 0 rfl v hM hL hv
      refine ⟨m, v', hm, hk, ?_⟩
      rcases hor with h | ⟨h1, h2⟩
      · exact Or.inl h
      · exact Or.inr ⟨fun at8 h8 => h1 at8 h8 (fun _ => Nat.zero_le _), h2⟩
theorem lay_ref (hA : AbOk nC nS nP g o d) (hch : ch < nC) (hset : set < 2 ^ nS) {v : St} (hM : RM nC nS nP g o d pl v) : ∃ r v', f_Mo_lay (nI ch) (nI set) v = some (r, v') ∧ KeepM 0 v v' ∧ ((r = 1 ∧ ∃ at9, pFirst d g ch set 0 0 at9 ∧ ∀ t, t < nS → v'.2 11 t = nI (at9 t) ∧ at9 t < 24) ∨ (r = 0 ∧ ∀ at9, ¬ pSol d g ch set 0 0 at9)) := by
  have hn4 := hA.2.1
  have hk0 : KeepM 0 v (sA v 11 0 (-1)) := KeepM.put (Nat.le_refl _) _
  obtain ⟨m, v', hm, hk, hor⟩ := lay_from hA hch hset nS 0 (by omega) (fun _ => 0) (sA v 11 0 (-1)) (hk0.RM hM) (fun t ht => by omega) (fun t ht => by omega) (by rw [sA_at, if_pos rfl, if_pos rfl]; decide)
  have hT : pT nS ≤ 1000000 := by
    have : nS = 0 ∨ nS = 1 ∨ nS = 2 ∨ nS = 3 ∨ nS = 4 := by omega
    rcases this with h | h | h | h | h <;> rw [h] <;> decide
  have e : f_Mo_lay (nI ch) (nI set) v = f_Mo_lay_9 10000000 (nI ch) (nI set) (nI 0) (sA v 11 0 (-1)) := by
    unfold f_Mo_lay
    rw [if_pos (show xin 0 5 by decide)]
    rfl
  rcases hor with ⟨at9, hf, hat, hrun⟩ | ⟨hno, hrun⟩
  · refine ⟨1, v', ?_, hk0.tr hk (Nat.le_refl _), Or.inl ⟨rfl, at9, ⟨hf.1.1, fun at8 h8 => hf.2 at8 ⟨h8, fun t ht => by omega⟩ (fun _ => Nat.zero_le _)⟩, hat⟩⟩
    rw [e, show 10000000 = (9999999 - m) + m + 1 by omega]
    exact hrun _
  · refine ⟨0, v', ?_, hk0.tr hk (Nat.le_refl _), Or.inr ⟨rfl, fun at9 h9 => hno at9 ⟨h9, fun t ht => by omega⟩⟩⟩
    rw [e, show 10000000 = (10000000 - m) + m by omega, hrun, show 10000000 - m = (9999999 - m) + 1 by omega]
    show b_Mo_lay_9 (f_Mo_lay_9 (9999999 - m)) (nI ch) (nI set) (nI 0 + (-1)) v' = _
    unfold b_Mo_lay_9 f_Mo_lay_145
    have h2 : v'.1 2 = nI nS := (hk.RM (hk0.RM hM)).2.1
    rw [if_pos (show nI 0 + (-1) < 0 by decide), h2, if_neg]
    intro h9
    have : (nI nS).toInt = (nI 0 + (-1)).toInt := by rw [h9]
    rw [nI_toInt (by omega)] at this
    have e9 : (nI 0 + (-1)).toInt = -1 := by decide
    omega
end LM2
