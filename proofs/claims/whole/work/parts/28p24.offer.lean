/-! the class offers a plan -/
def TabT (d : Nat → Nat → Nat) (nP nS : Nat) (a : Nat → Nat) (st : St) : Prop := ∀ s, s < nS → st.2 14 s = nI (bA d nP nS a s) ∧ st.2 15 s = nI (a s / 4) ∧ st.2 16 s = nI (a s % 4)
def TabB (d : Nat → Nat → Nat) (nP nS : Nat) (a : Nat → Nat) (st : St) : Prop := ∀ s, s < nS → st.2 17 s = nI (bA d nP nS a s) ∧ st.2 18 s = nI (a s / 4) ∧ st.2 19 s = nI (a s % 4)
/-- the best of the plans in X that the class has kept -/
def Bst (nC nS nP g o : Nat) (d : Nat → Nat → Nat) (X : (Nat → Nat) → Prop) (st : St) : Prop := ∃ pl, RC nC nS nP g o d pl st ∧ Cache nC nS d st ∧ ((pl = 0 ∧ ∀ a, X a → ¬ Vld nC nS nP g o d a) ∨ (pl = 1 ∧ ∃ a, Vld nC nS nP g o d a ∧ TabB d nP nS a st ∧ st.1 5 = nI (wA d nP nS a) ∧ ∀ a', X a' → Vld nC nS nP g o d a' → kA d nP nS a ≤ kA d nP nS a'))
def Fr (left : Nat) (st st' : St) : Prop := (∀ k, 20 ≤ k → st'.2 k = st.2 k) ∧ ∀ s, s < 4 → left.testBit s = false → st'.2 14 s = st.2 14 s ∧ st'.2 15 s = st.2 15 s ∧ st'.2 16 s = st.2 16 s
section OF
variable {nC nS nP g o pl : Nat} {d : Nat → Nat → Nat} {st : St}
theorem Fr.rf {l : Nat} : Fr l st st := ⟨fun _ _ => rfl, fun _ _ _ => ⟨rfl, rfl, rfl⟩⟩
theorem Fr.tr {l l1 l2 : Nat} {a b c : St} (h1 : Fr l1 a b) (h2 : Fr l2 b c) (i1 : ∀ s, s < 4 → l.testBit s = false → l1.testBit s = false) (i2 : ∀ s, s < 4 → l.testBit s = false → l2.testBit s = false) : Fr l a c := by
  refine ⟨fun k hk => (h2.1 k hk).trans (h1.1 k hk), fun s hs hl => ?_⟩
  obtain ⟨a1, a2, a3⟩ := h1.2 s hs (i1 s hs hl)
  obtain ⟨b1, b2, b3⟩ := h2.2 s hs (i2 s hs hl)
  exact ⟨b1.trans a1, b2.trans a2, b3.trans a3⟩
theorem Bst.mono {X Y : (Nat → Nat) → Prop} (h : Bst nC nS nP g o d X st) (hXY : ∀ a, Vld nC nS nP g o d a → Y a → X a) : Bst nC nS nP g o d Y st := by
  obtain ⟨pl, h1, h2, ⟨h3, h4⟩ | ⟨h3, a, h4, h5, h6, h7⟩⟩ := h
  · exact ⟨pl, h1, h2, Or.inl ⟨h3, fun a ha hV => h4 a (hXY a hV ha) hV⟩⟩
  · exact ⟨pl, h1, h2, Or.inr ⟨h3, a, h4, h5, h6, fun a' ha hV => h7 a' (hXY a' hV ha) hV⟩⟩
theorem RC_of {pl pl' : Nat} {st' : St} (h : RC nC nS nP g o d pl st) (h1 : ∀ k, k = 0 ∨ k = 1 ∨ k = 2 ∨ k = 3 ∨ k = 8 → st'.1 k = st.1 k) (h2 : st'.1 7 = nI pl') (h3 : ∀ k, k ≤ 10 → st'.2 k = st.2 k) : RC nC nS nP g o d pl' st' := by
  obtain ⟨c0, c1, c2, c3, c8, c7, cR⟩ := h
  refine ⟨by rw [h1 0 (by omega)]; exact c0, by rw [h1 1 (by omega)]; exact c1, by rw [h1 2 (by omega)]; exact c2, by rw [h1 3 (by omega)]; exact c3, by rw [h1 8 (by omega)]; exact c8, h2, fun k hk i => ?_⟩
  rw [h3 k hk]
  exact cR k hk i
theorem Cache_of {st' : St} (h : Cache nC nS d st) (h1 : st'.2 13 = st.2 13) : Cache nC nS d st' := by
  unfold Cache at h ⊢
  rw [h1]
  exact h
theorem TabB_of {a : Nat → Nat} {st' : St} (h : TabB d nP nS a st) (h1 : st'.2 17 = st.2 17) (h2 : st'.2 18 = st.2 18) (h3 : st'.2 19 = st.2 19) : TabB d nP nS a st' := by
  unfold TabB at h ⊢
  rw [h1, h2, h3]
  exact h
theorem Bst.keep {X : (Nat → Nat) → Prop} {st' : St} (h : Bst nC nS nP g o d X st) (h1 : st'.1 = st.1) (h2 : ∀ k, k ≤ 10 ∨ k = 17 ∨ k = 18 ∨ k = 19 → st'.2 k = st.2 k) (hK : Cache nC nS d st') : Bst nC nS nP g o d X st' := by
  obtain ⟨pl, p1, p2, p3⟩ := h
  refine ⟨pl, RC_of p1 (fun k _ => by rw [h1]) (by rw [h1]; exact p1.2.2.2.2.2.1) (fun k hk => h2 k (Or.inl hk)), hK, ?_⟩
  rcases p3 with p3 | ⟨p3, a, p4, p5, p6, p7⟩
  · exact Or.inl p3
  · exact Or.inr ⟨p3, a, p4, TabB_of p5 (h2 _ (by omega)) (h2 _ (by omega)) (h2 _ (by omega)), by rw [h1]; exact p6, p7⟩
/-- the end of offerTrial -/
def offFin (w : Int32) (st : St) : Option St := (f_Tt_setWaiting_tr w st).bind (fun o2 => (if (o2.1 7) = 0 then f_Pl_offerTrial_72 o2 else (f_Fl_all o2).bind (fun o5 => (f_Tt_isAheadOf_tr_bs o5.1 o5.2).bind (fun o6 => (if o6.1 = 0 then some o6.2 else f_Pl_offerTrial_72 o6.2)))))
theorem off_from (hA : AbOk nC nS nP g o d) (hC : RC nC nS nP g o d pl st) {b : Nat → Nat} (hb : ∀ s, s < nS → st.2 14 s = nI (b s) ∧ b s < 2 ^ 31) (w : Int32) : ∀ r s, s + r = nS → ∀ n, ((∀ t, s ≤ t → t < nS → ovF d b t 0 nS 0 ≤ o) ∧ f_Pl_offerTrial_2 (n + r + 1) w (nI s) st = offFin w st) ∨ ((∃ t, s ≤ t ∧ t < nS ∧ ¬ ovF d b t 0 nS 0 ≤ o) ∧ f_Pl_offerTrial_2 (n + r + 1) w (nI s) st = some st) := by
  have hn := hA.2.1
  have ho := hA.2.2.2.2.1
  intro r
  induction r with
  | zero =>
    intro s hs n
    have hs : s = nS := by omega
    subst hs
    refine Or.inl ⟨fun t h1 h2 => by omega, ?_⟩
    show b_Pl_offerTrial_2 (f_Pl_offerTrial_2 n) w (nI s) st = _
    unfold b_Pl_offerTrial_2 f_Fl_size
    rw [Option.bind_some]
    dsimp only
    rw [hC.2.2.1, if_pos (nI_le (Nat.le_refl _) (by omega))]
    rfl
  | succ r ih =>
    intro s hs n
    have e : f_Pl_offerTrial_2 (n + (r + 1) + 1) w (nI s) st = b_Pl_offerTrial_2 (f_Pl_offerTrial_2 (n + r + 1)) w (nI s) st := rfl
    have hb9 : ovF d b s 0 nS 0 ≤ 0 + nS := ovF_le nS 0 0
    have e2 : f_Pl_offerTrial_2 (n + (r + 1) + 1) w (nI s) st = if nI (ovF d b s 0 nS 0) ≤ nI o then f_Pl_offerTrial_2 (n + r + 1) w (nI (s + 1)) st else some st := by
      rw [e]
      unfold b_Pl_offerTrial_2 f_Fl_size
      rw [Option.bind_some]
      dsimp only
      rw [hC.2.2.1, if_neg (nI_ge (by omega) (by omega)), ov_tr hA hC hb (by omega), Option.bind_some]
      dsimp only
      rw [hC.2.2.2.2.1, nI_1]
    rw [e2]
    by_cases h : ovF d b s 0 nS 0 ≤ o
    · rw [if_pos (nI_le h (by omega))]
      rcases ih (s + 1) (by omega) n with ⟨h1, h2⟩ | ⟨⟨t, h1, h2, h3⟩, h4⟩
      · refine Or.inl ⟨fun t h3 h4 => ?_, h2⟩
        rcases Nat.eq_or_lt_of_le h3 with rfl | h3
        · exact h
        · exact h1 t h3 h4
      · exact Or.inr ⟨⟨t, by omega, h2, h3⟩, h4⟩
    · rw [if_neg (fun h9 => h ((nI_leI (by omega) (by omega)).mp h9))]
      exact Or.inr ⟨⟨s, Nat.le_refl _, by omega, h⟩, rfl⟩
theorem take_eq (hC : RC nC nS nP g o d pl st) (hK : Cache nC nS d st) {a : Nat → Nat} (hn : nS ≤ 4) (hT : TabT d nP nS a st) (hw : st.1 4 = nI (wA d nP nS a)) : ∃ st', f_Pl_offerTrial_72 st = some st' ∧ RC nC nS nP g o d 1 st' ∧ Cache nC nS d st' ∧ TabB d nP nS a st' ∧ st'.1 5 = nI (wA d nP nS a) ∧ Fr 0 st st' := by
  obtain ⟨s1, h1, h2, h3, h4, h5⟩ := copyB_eq st
  refine ⟨sI s1 7 1, ?_, RC_of hC (fun k hk => ?_) ?_ (fun k hk => ?_), ?_, ?_, ?_, ?_, ?_⟩
  · unfold f_Pl_offerTrial_72
    rw [h1, Option.bind_some, xl]
  · rw [sI_at, if_neg (by omega), h2 k (by omega)]
  · rw [sI_at, if_pos rfl]; rfl
  · rw [sI_arr, h4 k (by omega) (by omega) (by omega)]
  · refine Cache_of hK ?_
    rw [sI_arr, h4 13 (by decide) (by decide) (by decide)]
  · intro s hs
    obtain ⟨p1, p2, p3⟩ := (h5 s (by omega)).1 (Nat.zero_le _)
    rw [sI_arr, p1, p2, p3]
    exact hT s hs
  · rw [sI_at, if_neg (by decide), h3, hw]
  · intro k hk
    rw [sI_arr, h4 k (by omega) (by omega) (by omega)]
  · intro s _ _
    rw [sI_arr, h4 14 (by decide) (by decide) (by decide), h4 15 (by decide) (by decide) (by decide), h4 16 (by decide) (by decide) (by decide)]
    exact ⟨rfl, rfl, rfl⟩
theorem offer_eq (hA : AbOk nC nS nP g o d) {X : (Nat → Nat) → Prop} {p : Nat → Nat} (hB : Bst nC nS nP g o d X st) (hp : ∀ s, s < nS → p s < 4 * nC) (hr : ∀ q, q < 4 * nC → setA nS p q ≠ 0 → oneW d (setA nS p q) ∧ pFits d g (q / 4) (setA nS p q)) (hc : ∀ s, s < nS → ∀ k, k < p s % 4 → ∃ t, t < nS ∧ p t = 4 * (p s / 4) + k) (hT : TabT d nP nS p st) :
    ∃ st', f_Pl_offerTrial (nI (wA d nP nS p)) st = some st' ∧ Fr 0 st st' ∧ Bst nC nS nP g o d (fun a => X a ∨ ∀ s, s < nS → a s = p s) st' := by
  have hn := hA.2.1
  have hC2 := hA.1
  obtain ⟨pl, hC, hK, hor⟩ := hB
  have hb : ∀ s, s < nS → st.2 14 s = nI (bA d nP nS p s) ∧ bA d nP nS p s < 2 ^ 31 := fun s hs => ⟨(hT s hs).1, by have := (bA_bd hA hs (hp s hs)).2; omega⟩
  have hfu : f_Pl_offerTrial (nI (wA d nP nS p)) st = f_Pl_offerTrial_2 ((39 - nS) + nS + 1) (nI (wA d nP nS p)) (nI 0) st := by
    rw [show 39 - nS + nS + 1 = 40 by omega]
    rfl
  rw [hfu]
  rcases off_from hA hC hb (nI (wA d nP nS p)) nS 0 (by omega) (39 - nS) with ⟨hall, h⟩ | ⟨⟨t, -, ht, hno⟩, h⟩
  · rw [h]
    have hV : Vld nC nS nP g o d p := ⟨hp, hr, hc, fun s hs => hall s (Nat.zero_le _) hs⟩
    unfold offFin f_Tt_setWaiting_tr
    rw [xl, Option.bind_some]
    have hC1 : RC nC nS nP g o d pl (sI st 4 (nI (wA d nP nS p))) := RC_of hC (fun k hk => by rw [sI_at, if_neg (by omega)]) (by rw [sI_at, if_neg (by decide)]; exact hC.2.2.2.2.2.1) (fun k _ => rfl)
    have hK1 : Cache nC nS d (sI st 4 (nI (wA d nP nS p))) := Cache_of hK rfl
    have hT1 : TabT d nP nS p (sI st 4 (nI (wA d nP nS p))) := hT
    have hw4 : (sI st 4 (nI (wA d nP nS p))).1 4 = nI (wA d nP nS p) := by rw [sI_at, if_pos rfl]
    have h15 : (sI st 4 (nI (wA d nP nS p))).1 5 = st.1 5 := by rw [sI_at, if_neg (by decide)]
    have hF0 : Fr 0 st (sI st 4 (nI (wA d nP nS p))) := ⟨fun _ _ => rfl, fun _ _ _ => ⟨rfl, rfl, rfl⟩⟩
    have hB1 : ∀ a, Vld nC nS nP g o d a → TabB d nP nS a st → TabB d nP nS a (sI st 4 (nI (wA d nP nS p))) := fun a _ h => h
    generalize sI st 4 (nI (wA d nP nS p)) = s1 at *
    obtain ⟨s2, t1, t2, t3, t4, t5, t6⟩ := take_eq hC1 hK1 hn hT1 hw4
    have hF2 : Fr 0 st s2 := hF0.tr t6 (fun _ _ h => h) (fun _ _ h => h)
    rw [hC1.2.2.2.2.2.1]
    rcases hor with ⟨h3, h4⟩ | ⟨h3, a, h4, h5, h6, h7⟩
    · subst h3
      rw [if_pos (show nI 0 = 0 from rfl)]
      refine ⟨s2, t1, hF2, 1, t2, t3, Or.inr ⟨rfl, p, hV, t4, t5, fun a' ha' hV' => ?_⟩⟩
      rcases ha' with ha' | ha'
      · exact absurd hV' (h4 a' ha')
      · exact Nat.le_of_eq (kA_congr hn (fun s hs => (ha' s hs).symm))
    · subst h3
      have hq : ∀ {a : Nat → Nat}, Vld nC nS nP g o d a → ∀ s, s < nS → bA d nP nS a s < 19000 ∧ a s / 4 ≤ 1 := fun {a} hV s hs => ⟨(bA_bd hA hs (hV.1 s hs)).2, by have := hV.1 s hs; omega⟩
      have hah := ah_eq (c := s1) hA (b := bA d nP nS p) (b' := bA d nP nS a) (ch := fun s => p s / 4) (ch' := fun s => a s / 4) (fun s hs => ⟨(hT1 s hs).1, (hq hV s hs).1⟩) (fun s hs => ⟨(hB1 a h4 h5 s hs).1, (hq h4 s hs).1⟩) (fun s hs => ⟨(hT1 s hs).2.1, (hq hV s hs).2⟩) (fun s hs => ⟨(hB1 a h4 h5 s hs).2.1, (hq h4 s hs).2⟩) hw4 (h15.trans h6) (wA_bd hA hV.1) (wA_bd hA h4.1)
      have hah2 : f_Tt_isAheadOf_tr_bs (nI (2 ^ nS - 1)) s1 = some (if kA d nP nS p < kA d nP nS a then 1 else 0, s1) := hah
      rw [if_neg (show ¬ nI 1 = 0 from one_ne), all_eq hA hC1, Option.bind_some]
      dsimp only
      rw [hah2, Option.bind_some]
      dsimp only
      by_cases hlt : kA d nP nS p < kA d nP nS a
      · rw [if_pos hlt, if_neg one_ne]
        refine ⟨s2, t1, hF2, 1, t2, t3, Or.inr ⟨rfl, p, hV, t4, t5, fun a' ha' hV' => ?_⟩⟩
        rcases ha' with ha' | ha'
        · exact Nat.le_of_lt (Nat.lt_of_lt_of_le hlt (h7 a' ha' hV'))
        · exact Nat.le_of_eq (kA_congr hn (fun s hs => (ha' s hs).symm))
      · rw [if_neg hlt, if_pos rfl]
        refine ⟨s1, rfl, hF0, 1, hC1, hK1, Or.inr ⟨rfl, a, h4, hB1 a h4 h5, h15.trans h6, fun a' ha' hV' => ?_⟩⟩
        rcases ha' with ha' | ha'
        · exact h7 a' ha' hV'
        · rw [← kA_congr hn (fun s hs => (ha' s hs).symm)]
          exact Nat.le_of_not_lt hlt
  · rw [h]
    refine ⟨st, rfl, Fr.rf, Bst.mono ⟨pl, hC, hK, hor⟩ (fun a hV ha => ?_)⟩
    rcases ha with ha | ha
    · exact ha
    · exact absurd ((Vld_congr ha hV).2.2.2 t ht) hno
theorem canRun_eq (hA : AbOk nC nS nP g o d) {ch set : Nat} (hch : ch < nC) (hset : set < 2 ^ nS) (h0 : set ≠ 0) (hC : RC nC nS nP g o d pl st) (hK : Cache nC nS d st) : ∃ r st', f_Pl_canRun (nI ch) (nI set) st = some (r, st') ∧ Ans (oneW d set ∧ pFits d g ch set) r ∧ KeepB st st' ∧ Cache nC nS d st' := by
  have h16 := pw_le hA.2.1
  unfold f_Pl_canRun
  obtain ⟨x, hx, hor⟩ := cd_eq hA hset hC
  rw [hx, Option.bind_some]
  dsimp only
  rcases hor with ⟨-, h1, rfl⟩ | ⟨h1, rfl⟩
  · rw [if_neg (nI_nm1 (by have := dirN_le hA hset h0; omega))]
    obtain ⟨r, c', h2, h3, h4, h5⟩ := canLay_eq hA hch hset hC hK
    rw [h2, Option.bind_some]
    dsimp only
    rcases h3 with ⟨rfl, h3⟩ | ⟨rfl, h3⟩
    · rw [if_neg one_ne]
      exact ⟨1, c', rfl, Or.inl ⟨rfl, h1, h3⟩, h4, h5⟩
    · rw [if_pos rfl]
      exact ⟨0, c', rfl, Or.inr ⟨rfl, fun h => h3 h.2⟩, h4, h5⟩
  · rw [if_pos rfl]
    exact ⟨0, st, rfl, Or.inr ⟨rfl, fun h => h1 ⟨h0, h.1⟩⟩, KeepB.rf, hK⟩
end OF
