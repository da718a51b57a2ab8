/-! the reference weighs an assignment -/
theorem arrF_ext {d : Nat → Nat → Nat} {set m : Nat} : ∀ r s t, (∀ u, s + r ≤ u → set.testBit u = false) → arrF d set s r t = arrF d set s (r + m) t := by
  intro r
  induction r with
  | zero =>
    intro s t h
    rw [Nat.zero_add, arrF_none m s t (fun u hu => h u (by omega))]
    rfl
  | succ r ih =>
    intro s t h
    rw [show r + 1 + m = (r + m) + 1 by omega]
    exact ih (s + 1) _ (fun u hu => h u (by omega))
theorem wF_ext {d : Nat → Nat → Nat} {b : Nat → Nat} {P : Nat → Bool} {m : Nat} : ∀ r s t, (∀ u, s + r ≤ u → P u = false) → wF d b P s r t = wF d b P s (r + m) t := by
  intro r
  induction r with
  | zero =>
    intro s t h
    rw [Nat.zero_add, wF_none m s t (fun u hu => h u (by omega))]
    rfl
  | succ r ih =>
    intro s t h
    rw [show r + 1 + m = (r + m) + 1 by omega]
    exact ih (s + 1) _ (fun u hu => h u (by omega))
def okR (g : Nat) (d : Nat → Nat → Nat) (S : Nat → Nat) (c r : Nat) : Prop := S (4 * c + r) ≠ 0 → (∀ k, k < r → S (4 * c + k) ≠ 0) ∧ oneW d (S (4 * c + r)) ∧ pFits d g c (S (4 * c + r))
def KpT (c : Nat) (v v' : St) : Prop := v'.1 = v.1 ∧ (∀ k, k ≠ 17 → v'.2 k = v.2 k) ∧ ∀ i, (i < 4 * c ∨ 4 * c + 4 ≤ i) → v'.2 17 i = v.2 17 i
def FitT (nC nS g : Nat) (d : Nat → Nat → Nat) (v : St) : Prop := ∀ c set, c < nC → set < 2 ^ nS → Ans (pFits d g c set) (v.2 12 (16 * c + set))
def Trd (nS : Nat) (a : Nat → Nat) (v : St) : Prop := ∀ s, s < nS → v.2 13 s = nI (a s) ∧ a s < 2 ^ 31
section WG
variable {nC nS nP g o pl : Nat} {d : Nat → Nat → Nat} {a : Nat → Nat}
theorem m4 (c r : Nat) : 4 * nI c + nI r = nI (4 * c + r) := by rw [z4, pk_mul, nI_add]
theorem m16 (c r : Nat) : 16 * nI c + nI r = nI (16 * c + r) := by rw [z16, pk_mul, nI_add]
theorem tm_arr (hA : AbOk nC nS nP g o d) {c r0 set : Nat} (hc : c < nC) (hr0 : r0 < 4) (hset : set < 2 ^ nS) {v : St} (hM : RM nC nS nP g o d pl v) (K10 : Int32 → Int32 → Int32 → Int32 → Int32 → St → Option (Int32 × St)) (x4 : Int32) {dir : Nat} (hd : dir ≤ 1) : ∀ r s, s + r = nS → ∀ t, t ≤ 20000 → ∀ n, f_Mo_times_124 K10 (n + r + 1) (nI c) x4 (nI r0) (nI set) (nI dir) (nI t) (nI s) v = K10 (nI c) (nI (opn d c nP (arrF d set s r t) + d 2 c)) (nI (1 - dir)) x4 (nI (r0 + 1)) (sA v 17 (4 * c + r0) (nI (opn d c nP (arrF d set s r t)))) := by
  have hn := hA.2.1
  have h16 := pw_le hn
  have hC2 := hA.1
  intro r
  induction r with
  | zero =>
    intro s hs t ht n
    have hs : s = nS := by omega
    subst hs
    have R2 := hM.2.2.2.2.2.2 2 (by decide) c
    show b_Mo_times_124 K10 (f_Mo_times_124 K10 n) _ _ _ _ _ _ (nI s) v = _
    unfold b_Mo_times_124 f_Mo_times_213
    rw [hM.2.1, if_pos (nI_le (Nat.le_refl _) (by omega)), openM_eq hA hM hc ht, Option.bind_some]
    dsimp only
    rw [m4, xi (show 4 * c + r0 < 8 by omega) (by decide), xl, xi (show c < 2 by omega) (by decide), xl, xl, qcl (by omega), qcl (by omega), sA_at, if_neg (by decide), R2, nI_add, nI_1, z1, pk_sub hd]
    rfl
  | succ r ih =>
    intro s hs t ht n
    have R8 := hM.2.2.2.2.2.2 8 (by decide) s
    have q := qb1 (set := set) (s := s) (by omega) (by omega)
    rw [← z1, ← z31] at q
    have e : f_Mo_times_124 K10 (n + (r + 1) + 1) (nI c) x4 (nI r0) (nI set) (nI dir) (nI t) (nI s) v = b_Mo_times_124 K10 (f_Mo_times_124 K10 (n + r + 1)) (nI c) x4 (nI r0) (nI set) (nI dir) (nI t) (nI s) v := rfl
    have eA : arrF d set s (r + 1) t = arrF d set (s + 1) r (if set.testBit s = true then (if t < d 8 s then d 8 s else t) else t) := rfl
    have d8 := hA.2.2.2.2.2.2.2 s (by omega)
    rw [e, eA]
    unfold b_Mo_times_124 f_Mo_times_166 f_Mo_times_168
    rw [hM.2.1, if_neg (nI_ge (by omega) (by omega)), xi (show s < 4 by omega) (by decide), xi (show s < 4 by omega) (by decide), qcl (by omega), R8, nI_1]
    cases hb : set.testBit s
    · rw [if_neg (fun h => by have := q.mp h; rw [hb] at this; cases this), if_neg (show ¬ (false = true) by decide)]
      exact ih (s + 1) (by omega) t ht n
    · rw [if_pos (q.mpr hb), if_pos rfl]
      by_cases h : t < d 8 s
      · rw [if_neg (nI_ge h (by omega)), if_pos h]
        exact ih (s + 1) (by omega) _ (by omega) n
      · rw [if_pos (nI_le (by omega) (by omega)), if_neg h]
        exact ih (s + 1) (by omega) _ ht n
theorem KpT.rf {c : Nat} {v : St} : KpT c v v := ⟨rfl, fun _ _ => rfl, fun _ _ => rfl⟩
theorem KpT.RM {c : Nat} {v v' : St} (h : KpT c v v') (hM : RM nC nS nP g o d pl v) : RM nC nS nP g o d pl v' := RM_of hM h.1 (fun k hk => h.2.1 k (by omega))
theorem tm_from (hA : AbOk nC nS nP g o d) {c : Nat} (hc : c < nC) : ∀ m r, r + m = 4 → ∀ (v : St) (x : Int32), RM nC nS nP g o d pl v → Trd nS a v → FitT nC nS g d v → (∀ k, k < r → okR g d (setA nS a) c k) → ((x = 0 ∧ ∀ k, k < r → setA nS a (4 * c + k) ≠ 0) ∨ (x = 1 ∧ ∃ k, k < r ∧ setA nS a (4 * c + k) = 0)) → (∀ k, k < r → setA nS a (4 * c + k) ≠ 0 → v.2 17 (4 * c + k) = nI (bgn d nP (setA nS a) c k)) → ∀ n, ∃ v', KpT c v v' ∧ (((∀ k, k < 4 → okR g d (setA nS a) c k) ∧ (∀ k, k < 4 → setA nS a (4 * c + k) ≠ 0 → v'.2 17 (4 * c + k) = nI (bgn d nP (setA nS a) c k)) ∧ f_Mo_times_10 (n + m + 1) (nI c) (nI (cst d nP (setA nS a) c r).1) (nI (cst d nP (setA nS a) c r).2) x (nI r) v = some (1, v')) ∨ (¬ (∀ k, k < 4 → okR g d (setA nS a) c k) ∧ f_Mo_times_10 (n + m + 1) (nI c) (nI (cst d nP (setA nS a) c r).1) (nI (cst d nP (setA nS a) c r).2) x (nI r) v = some (0, v'))) := by
  have hn := hA.2.1
  have h16 := pw_le hn
  have hC2 := hA.1
  have dC := hA.2.2.2.2.2.1 c hc
  intro m
  induction m with
  | zero =>
    intro r hr v x hM hT hF hok hx h17 n
    have hr : r = 4 := by omega
    subst hr
    refine ⟨v, KpT.rf, Or.inl ⟨hok, h17, ?_⟩⟩
    show b_Mo_times_10 (f_Mo_times_10 n) _ _ _ _ (nI 4) v = _
    unfold b_Mo_times_10
    rw [if_pos (show (4 : Int32) ≤ nI 4 by decide)]
  | succ m ih =>
    intro r hr v x hM hT hF hok hx h17 n
    have hr4 : r < 4 := by omega
    have hset := setA_pow (a := a) hn (4 * c + r)
    have hcb := cst_bd hA hc (S := setA nS a) (fun q => setA_pow hn q) r
    have e : f_Mo_times_10 (n + (m + 1) + 1) (nI c) (nI (cst d nP (setA nS a) c r).1) (nI (cst d nP (setA nS a) c r).2) x (nI r) v = b_Mo_times_10 (f_Mo_times_10 (n + m + 1)) (nI c) (nI (cst d nP (setA nS a) c r).1) (nI (cst d nP (setA nS a) c r).2) x (nI r) v := rfl
    rw [e]
    unfold b_Mo_times_10
    rw [if_neg (ge4 hr4), m4, setOf_eq hA hM hT (by omega), Option.bind_some]
    dsimp only
    have h01 : x = 0 ∨ x = 1 := by
      rcases hx with h | h
      · exact Or.inl h.1
      · exact Or.inr h.1
    by_cases hz : setA nS a (4 * c + r) = 0
    · have ecs : cst d nP (setA nS a) c (r + 1) = cst d nP (setA nS a) c r := if_pos hz
      obtain ⟨v', k1, k2⟩ := ih (r + 1) (by omega) v 1 hM hT hF (fun k hk => by
        rcases Nat.eq_or_lt_of_le (Nat.le_of_lt_succ hk) with rfl | h
        · exact fun h9 => absurd hz h9
        · exact hok k h) (Or.inr ⟨rfl, r, by omega, hz⟩) (fun k hk h9 => by
        rcases Nat.eq_or_lt_of_le (Nat.le_of_lt_succ hk) with rfl | h
        · exact absurd hz h9
        · exact h17 k h h9) n
      rw [ecs] at k2
      have e9 : f_Mo_times_64 (f_Mo_times_10 (n + m + 1)) (nI c) (nI (cst d nP (setA nS a) c r).1) (nI (cst d nP (setA nS a) c r).2) x (nI r) (nI 0) v = f_Mo_times_10 (n + m + 1) (nI c) (nI (cst d nP (setA nS a) c r).1) (nI (cst d nP (setA nS a) c r).2) 1 (nI (r + 1)) v := by
        unfold f_Mo_times_64 f_Mo_times_74 f_Mo_times_79 f_Mo_times_213
        rw [if_pos (show nI 0 = 0 from rfl), if_pos (show nI 0 = 0 from rfl), ite_self, nI_1]
      rw [hz, if_pos (show nI 0 ≤ 0 by decide), e9]
      exact ⟨v', k1, k2⟩
    · rw [if_neg (show ¬ nI (setA nS a (4 * c + r)) ≤ 0 from fun h => hz (by have := (nI_leI (b := 0) (by omega) (by omega)).mp h; omega))]
      rcases hx with ⟨rfl, hall⟩ | ⟨rfl, k0, hk0, hk1⟩
      · rw [if_pos rfl]
        obtain ⟨y, hy, hya⟩ := ow_eq hA hM hset hz
        rw [hy, Option.bind_some]
        dsimp only
        rcases hya with ⟨rfl, hw⟩ | ⟨rfl, hw⟩
        · rw [if_neg one_ne, m16, xi (show 16 * c + setA nS a (4 * c + r) < 32 by omega) (by decide), qcl (by omega)]
          rcases hF c _ hc hset with ⟨hf1, hf2⟩ | ⟨hf1, hf2⟩
          · rw [hf1, if_neg one_ne]
            have hdn := dirN_le hA hset hz
            have hfl := firstN_lt (setA nS a (4 * c + r))
            have R9 := hM.2.2.2.2.2.2 9 (by decide) (firstN (setA nS a (4 * c + r)))
            have R2 := hM.2.2.2.2.2.2 2 (by decide) c
            have eb : bgn d nP (setA nS a) c r = opn d c nP (arrF d (setA nS a (4 * c + r)) 0 4 (if (cst d nP (setA nS a) c r).2 = dirN d (setA nS a (4 * c + r)) then (cst d nP (setA nS a) c r).1 else (cst d nP (setA nS a) c r).1 + d 2 c)) := rfl
            have e119 : ∀ t, t ≤ 20000 → f_Mo_times_119 (f_Mo_times_10 (n + m + 1)) (nI c) 0 (nI r) (nI (setA nS a (4 * c + r))) (nI (dirN d (setA nS a (4 * c + r)))) (nI t) v = f_Mo_times_10 (n + m + 1) (nI c) (nI (opn d c nP (arrF d (setA nS a (4 * c + r)) 0 4 t) + d 2 c)) (nI (1 - dirN d (setA nS a (4 * c + r)))) 0 (nI (r + 1)) (sA v 17 (4 * c + r) (nI (opn d c nP (arrF d (setA nS a (4 * c + r)) 0 4 t)))) := fun t ht => by
              have h := tm_arr hA hc hr4 hset hM (f_Mo_times_10 (n + m + 1)) 0 hdn nS 0 (by omega) t ht (39 - nS)
              rw [show 39 - nS + nS + 1 = 40 by omega, arrF_ext (m := 4 - nS) nS 0 t (fun u hu => by
                cases hb : (setA nS a (4 * c + r)).testBit u
                · rfl
                · have := bit_lt hset hb
                  omega), show nS + (4 - nS) = 4 by omega] at h
              exact h
            have e79 : f_Mo_times_64 (f_Mo_times_10 (n + m + 1)) (nI c) (nI (cst d nP (setA nS a) c r).1) (nI (cst d nP (setA nS a) c r).2) 0 (nI r) (nI (setA nS a (4 * c + r))) v = f_Mo_times_10 (n + m + 1) (nI c) (nI (cst d nP (setA nS a) c (r + 1)).1) (nI (cst d nP (setA nS a) c (r + 1)).2) 0 (nI (r + 1)) (sA v 17 (4 * c + r) (nI (bgn d nP (setA nS a) c r))) := by
              rw [cst_next hz]
              unfold f_Mo_times_64 f_Mo_times_79
              rw [if_pos rfl, if_neg (show ¬ nI (setA nS a (4 * c + r)) = 0 from fun h => hz ((nI_eq (b := 0) (by omega) (by omega)).mp h)), if_neg (show ¬ nI (setA nS a (4 * c + r)) = 0 from fun h => hz ((nI_eq (b := 0) (by omega) (by omega)).mp h)), first_eq (by omega) hz, Option.bind_some]
              dsimp only
              rw [xi hfl (by decide), xl, qcl (by omega), R9, xi (show c < 2 by omega) (by decide), qcl (by omega), R2, nI_add]
              show (if nI (dirN d (setA nS a (4 * c + r))) = nI (cst d nP (setA nS a) c r).2 then f_Mo_times_119 (f_Mo_times_10 (n + m + 1)) (nI c) 0 (nI r) (nI (setA nS a (4 * c + r))) (nI (dirN d (setA nS a (4 * c + r)))) (nI (cst d nP (setA nS a) c r).1) v else f_Mo_times_119 (f_Mo_times_10 (n + m + 1)) (nI c) 0 (nI r) (nI (setA nS a (4 * c + r))) (nI (dirN d (setA nS a (4 * c + r)))) (nI ((cst d nP (setA nS a) c r).1 + d 2 c)) v) = _
              rw [e119 _ (by omega), e119 _ (by omega), eb]
              by_cases hdd : (cst d nP (setA nS a) c r).2 = dirN d (setA nS a (4 * c + r))
              · rw [if_pos (show nI (dirN d (setA nS a (4 * c + r))) = nI (cst d nP (setA nS a) c r).2 by rw [hdd]), if_pos hdd]
              · rw [if_neg (show ¬ nI (dirN d (setA nS a (4 * c + r))) = nI (cst d nP (setA nS a) c r).2 from fun h => hdd ((nI_eq (by omega) (by omega)).mp h).symm), if_neg hdd]
            rw [e79]
            have hkp : KpT c v (sA v 17 (4 * c + r) (nI (bgn d nP (setA nS a) c r))) := ⟨rfl, fun k hk => by funext i; rw [sA_at, if_neg hk], fun i hi => by rw [sA_at, if_pos rfl, if_neg (by omega)]⟩
            obtain ⟨v', k1, k2⟩ := ih (r + 1) (by omega) (sA v 17 (4 * c + r) (nI (bgn d nP (setA nS a) c r))) 0 (hkp.RM hM) (fun s hs => by rw [hkp.2.1 13 (by decide)]; exact hT s hs) (fun c' set' p1 p2 => by rw [hkp.2.1 12 (by decide)]; exact hF c' set' p1 p2) (fun k hk => by
              rcases Nat.eq_or_lt_of_le (Nat.le_of_lt_succ hk) with rfl | h
              · exact fun _ => ⟨hall, hw, hf2⟩
              · exact hok k h) (Or.inl ⟨rfl, fun k hk => by
              rcases Nat.eq_or_lt_of_le (Nat.le_of_lt_succ hk) with rfl | h
              · exact hz
              · exact hall k h⟩) (fun k hk h9 => by
              rw [sA_at, if_pos rfl]
              rcases Nat.eq_or_lt_of_le (Nat.le_of_lt_succ hk) with rfl | h
              · rw [if_pos rfl]
              · rw [if_neg (by omega)]
                exact h17 k h h9) n
            exact ⟨v', ⟨k1.1.trans hkp.1, fun k hk => (k1.2.1 k hk).trans (hkp.2.1 k hk), fun i hi => (k1.2.2 i hi).trans (hkp.2.2 i hi)⟩, k2⟩
          · rw [hf1, if_pos rfl]
            exact ⟨v, KpT.rf, Or.inr ⟨fun h => hf2 (h r hr4 hz).2.2, rfl⟩⟩
        · rw [if_pos rfl]
          exact ⟨v, KpT.rf, Or.inr ⟨fun h => hw (h r hr4 hz).2.1, rfl⟩⟩
      · rw [if_neg one_ne]
        exact ⟨v, KpT.rf, Or.inr ⟨fun h => (h r hr4 hz).1 k0 hk0 hk1, rfl⟩⟩
def KpW (v v' : St) : Prop := v'.1 = v.1 ∧ ∀ k, k ≠ 14 → k ≠ 17 → v'.2 k = v.2 k
theorem KpW.rf {v : St} : KpW v v := ⟨rfl, fun _ _ _ => rfl⟩
theorem KpW.tr {a b c : St} (h1 : KpW a b) (h2 : KpW b c) : KpW a c := ⟨h2.1.trans h1.1, fun k p q => (h2.2 k p q).trans (h1.2 k p q)⟩
theorem KpW.RM {v v' : St} (h : KpW v v') (hM : RM nC nS nP g o d pl v) : RM nC nS nP g o d pl v' := RM_of hM h.1 (fun k hk => h.2 k (by omega) (by omega))
theorem wg_ch (hA : AbOk nC nS nP g o d) : ∀ m c, c + m = nC → ∀ (v : St), RM nC nS nP g o d pl v → Trd nS a v → FitT nC nS g d v → (∀ c', c' < c → ∀ k, k < 4 → okR g d (setA nS a) c' k) → (∀ c', c' < c → ∀ k, k < 4 → setA nS a (4 * c' + k) ≠ 0 → v.2 17 (4 * c' + k) = nI (bgn d nP (setA nS a) c' k)) → ∀ n, ∃ v', KpW v v' ∧ (((∀ c', c' < nC → ∀ k, k < 4 → okR g d (setA nS a) c' k) ∧ (∀ c', c' < nC → ∀ k, k < 4 → setA nS a (4 * c' + k) ≠ 0 → v'.2 17 (4 * c' + k) = nI (bgn d nP (setA nS a) c' k)) ∧ f_Mo_weighed_2 (n + m + 1) (nI c) v = f_Mo_weighed_31 40 0 0 v') ∨ (¬ (∀ c', c' < nC → ∀ k, k < 4 → okR g d (setA nS a) c' k) ∧ f_Mo_weighed_2 (n + m + 1) (nI c) v = some (1000000000, v'))) := by
  have hC2 := hA.1
  intro m
  induction m with
  | zero =>
    intro c hc v hM hT hF hok h17 n
    have hc : c = nC := by omega
    subst hc
    refine ⟨v, KpW.rf, Or.inl ⟨hok, h17, ?_⟩⟩
    show b_Mo_weighed_2 (f_Mo_weighed_2 n) (nI c) v = _
    unfold b_Mo_weighed_2
    rw [hM.1, if_pos (nI_le (Nat.le_refl _) (by omega))]
  | succ m ih =>
    intro c hc v hM hT hF hok h17 n
    have hcn : c < nC := by omega
    have e : f_Mo_weighed_2 (n + (m + 1) + 1) (nI c) v = b_Mo_weighed_2 (f_Mo_weighed_2 (n + m + 1)) (nI c) v := rfl
    rw [e]
    unfold b_Mo_weighed_2
    rw [hM.1, if_neg (nI_ge hcn (by omega))]
    obtain ⟨v1, k1, k2⟩ := tm_from hA hcn 4 0 rfl v 0 hM hT hF (fun k hk => by omega) (Or.inl ⟨rfl, fun k hk => by omega⟩) (fun k hk => by omega) 35
    have hkw : KpW v v1 := ⟨k1.1, fun k _ hk => k1.2.1 k hk⟩
    rcases k2 with ⟨q1, q2, q3⟩ | ⟨q1, q3⟩
    · have q4 : f_Mo_times (nI c) v = some (1, v1) := q3
      rw [q4, Option.bind_some]
      dsimp only
      rw [if_neg one_ne, nI_1]
      obtain ⟨v', j1, j2⟩ := ih (c + 1) (by omega) v1 (hkw.RM hM) (fun s hs => by rw [k1.2.1 13 (by decide)]; exact hT s hs) (fun c' set' p1 p2 => by rw [k1.2.1 12 (by decide)]; exact hF c' set' p1 p2) (fun c' hc' => by
        rcases Nat.eq_or_lt_of_le (Nat.le_of_lt_succ hc') with rfl | h
        · exact q1
        · exact hok c' h) (fun c' hc' k hk h9 => by
        rcases Nat.eq_or_lt_of_le (Nat.le_of_lt_succ hc') with rfl | h
        · exact q2 k hk h9
        · rw [k1.2.2 _ (by omega)]
          exact h17 c' h k hk h9) n
      exact ⟨v', hkw.tr j1, j2⟩
    · have q4 : f_Mo_times (nI c) v = some (0, v1) := q3
      rw [q4, Option.bind_some]
      dsimp only
      rw [if_pos rfl]
      exact ⟨v1, hkw, Or.inr ⟨fun h => q1 (h c hcn), rfl⟩⟩
theorem wg_sum (hA : AbOk nC nS nP g o d) (ha : ∀ s, s < nS → a s < 4 * nC) : ∀ r s, s + r = nS → ∀ (v : St) (w : Nat), RM nC nS nP g o d pl v → Trd nS a v → (∀ t, t < nS → v.2 17 (a t) = nI (bA d nP nS a t)) → (∀ t, t < s → v.2 14 t = nI (bA d nP nS a t)) → ∀ n, ∃ v', KpW v v' ∧ (∀ t, t < nS → v'.2 14 t = nI (bA d nP nS a t)) ∧ f_Mo_weighed_31 (n + r + 1) (nI w) (nI s) v = f_Mo_weighed_80 40 (nI (wF d (bA d nP nS a) (fun s => decide (s < nS)) s r w)) 0 v' := by
  have hn := hA.2.1
  have hC2 := hA.1
  intro r
  induction r with
  | zero =>
    intro s hs v w hM hT h17 h14 n
    have hs : s = nS := by omega
    subst hs
    refine ⟨v, KpW.rf, h14, ?_⟩
    show b_Mo_weighed_31 (f_Mo_weighed_31 n) _ (nI s) v = _
    unfold b_Mo_weighed_31
    rw [hM.2.1, if_pos (nI_le (Nat.le_refl _) (by omega))]
    rfl
  | succ r ih =>
    intro s hs v w hM hT h17 h14 n
    have hsn : s < nS := by omega
    have e : f_Mo_weighed_31 (n + (r + 1) + 1) (nI w) (nI s) v = b_Mo_weighed_31 (f_Mo_weighed_31 (n + r + 1)) (nI w) (nI s) v := rfl
    have eW : wF d (bA d nP nS a) (fun s => decide (s < nS)) s (r + 1) w = wF d (bA d nP nS a) (fun s => decide (s < nS)) (s + 1) r (w + if decide (s < nS) = true then bA d nP nS a s - d 8 s else 0) := rfl
    have hkp : KpW v (sA v 14 s (nI (bA d nP nS a s))) := ⟨rfl, fun k hk _ => by funext i; rw [sA_at, if_neg hk]⟩
    obtain ⟨v', k1, k2, k3⟩ := ih (s + 1) (by omega) (sA v 14 s (nI (bA d nP nS a s))) (w + (bA d nP nS a s - d 8 s)) (hkp.RM hM) (fun t ht => by rw [hkp.2 13 (by decide) (by decide)]; exact hT t ht) (fun t ht => by rw [sA_at, if_neg (by decide)]; exact h17 t ht) (fun t ht => by
      rw [sA_at, if_pos rfl]
      rcases Nat.eq_or_lt_of_le (Nat.le_of_lt_succ ht) with rfl | h
      · rw [if_pos rfl]
      · rw [if_neg (by omega)]
        exact h14 t h) n
    refine ⟨v', hkp.tr k1, k2, ?_⟩
    have R8 := hM.2.2.2.2.2.2 8 (by decide) s
    have bd := bA_bd hA hsn (ha s hsn)
    have has := ha s hsn
    rw [e, eW, if_pos (decide_eq_true hsn), ← k3]
    unfold b_Mo_weighed_31
    rw [hM.2.1, if_neg (nI_ge hsn (by omega))]
    simp only [xi (show s < 4 by omega) (by decide), xi (show a s < 8 by omega) (by decide), qcl (show s < 2 ^ 31 by omega), qcl (show a s < 2 ^ 31 by omega), (hT s hsn).1, h17 s hsn, xl]
    rw [sA_at, if_pos rfl, if_pos rfl, sA_at, if_neg (by decide), R8, pk_sub bd.1, nI_add, nI_1]
theorem wg_ov (hA : AbOk nC nS nP g o d) {v : St} (hM : RM nC nS nP g o d pl v) {b : Nat → Nat} (hb : ∀ s, s < nS → v.2 14 s = nI (b s) ∧ b s < 2 ^ 31) (w : Int32) : ∀ r s, s + r = nS → ∀ n, ((∀ t, s ≤ t → t < nS → ovF d b t 0 nS 0 ≤ o) ∧ f_Mo_weighed_80 (n + r + 1) w (nI s) v = some (w, v)) ∨ ((∃ t, s ≤ t ∧ t < nS ∧ ¬ ovF d b t 0 nS 0 ≤ o) ∧ f_Mo_weighed_80 (n + r + 1) w (nI s) v = some (1000000000, v)) := by
  have hn := hA.2.1
  have ho := hA.2.2.2.2.1
  intro r
  induction r with
  | zero =>
    intro s hs n
    have hs : s = nS := by omega
    subst hs
    refine Or.inl ⟨fun t h1 h2 => by omega, ?_⟩
    show b_Mo_weighed_80 (f_Mo_weighed_80 n) w (nI s) v = _
    unfold b_Mo_weighed_80
    rw [hM.2.1, if_pos (nI_le (Nat.le_refl _) (by omega))]
  | succ r ih =>
    intro s hs n
    have e : f_Mo_weighed_80 (n + (r + 1) + 1) w (nI s) v = b_Mo_weighed_80 (f_Mo_weighed_80 (n + r + 1)) w (nI s) v := rfl
    have hb9 : ovF d b s 0 nS 0 ≤ 0 + nS := ovF_le nS 0 0
    have e2 : f_Mo_weighed_80 (n + (r + 1) + 1) w (nI s) v = if nI (ovF d b s 0 nS 0) ≤ nI o then f_Mo_weighed_80 (n + r + 1) w (nI (s + 1)) v else some (1000000000, v) := by
      rw [e]
      unfold b_Mo_weighed_80
      rw [hM.2.1, if_neg (nI_ge (by omega) (by omega)), ovM1 hA hM hb (by omega), Option.bind_some]
      dsimp only
      rw [hM.2.2.2.2.1, nI_1]
    rw [e2]
    by_cases h : ovF d b s 0 nS 0 ≤ o
    · rw [if_pos (nI_le h (by omega))]
      rcases ih (s + 1) (by omega) n with ⟨h1, h2⟩ | ⟨⟨t, h1, h2, h3⟩, h4⟩
      · refine Or.inl ⟨fun t h3 h4 => ?_, h2⟩
        rcases Nat.eq_or_lt_of_le h3 with rfl | h3
        · exact h
        · exact h1 t h3 h4
      · exact Or.inr ⟨⟨t, by omega, h2, h3⟩, h4⟩
    · rw [if_neg (fun h9 => h ((nI_leI (by omega) (by omega)).mp h9))]
      exact Or.inr ⟨⟨s, Nat.le_refl _, by omega, h⟩, rfl⟩
theorem ok_vld (hn : nS ≤ 4) (ha : ∀ s, s < nS → a s < 4 * nC) : (∀ c', c' < nC → ∀ k, k < 4 → okR g d (setA nS a) c' k) ↔ ((∀ q, q < 4 * nC → setA nS a q ≠ 0 → oneW d (setA nS a q) ∧ pFits d g (q / 4) (setA nS a q)) ∧ (∀ s, s < nS → ∀ k, k < a s % 4 → ∃ t, t < nS ∧ a t = 4 * (a s / 4) + k)) := by
  constructor
  · intro h
    constructor
    · intro q hq hne
      have h1 := h (q / 4) (by omega) (q % 4) (by omega)
      unfold okR at h1
      rw [show 4 * (q / 4) + q % 4 = q by omega] at h1
      exact (h1 hne).2
    · intro s hs k hk
      have h0 := ha s hs
      have h1 := h (a s / 4) (by omega) (a s % 4) (by omega)
      unfold okR at h1
      rw [show 4 * (a s / 4) + a s % 4 = a s by omega] at h1
      exact (setA_ne hn _).mp ((h1 ((setA_ne hn _).mpr ⟨s, hs, rfl⟩)).1 k hk)
  · rintro ⟨h1, h2⟩ c' hc' k hk hne
    obtain ⟨q1, q2⟩ := h1 (4 * c' + k) (by omega) hne
    rw [show (4 * c' + k) / 4 = c' by omega] at q2
    refine ⟨fun j hj => ?_, q1, q2⟩
    obtain ⟨s, hs, he⟩ := (setA_ne hn _).mp hne
    obtain ⟨t, ht, he2⟩ := h2 s hs j (by omega)
    exact (setA_ne hn _).mpr ⟨t, ht, by omega⟩
theorem weighed_eq (hA : AbOk nC nS nP g o d) (ha : ∀ s, s < nS → a s < 4 * nC) {v : St} (hM : RM nC nS nP g o d pl v) (hT : Trd nS a v) (hF : FitT nC nS g d v) : ∃ v', KpW v v' ∧ ((Vld nC nS nP g o d a ∧ (∀ s, s < nS → v'.2 14 s = nI (bA d nP nS a s)) ∧ f_Mo_weighed v = some (nI (wA d nP nS a), v')) ∨ (¬ Vld nC nS nP g o d a ∧ f_Mo_weighed v = some (1000000000, v'))) := by
  have hn := hA.2.1
  have hC2 := hA.1
  obtain ⟨v1, k1, k2⟩ := wg_ch hA nC 0 (by omega) v hM hT hF (fun c hc => by omega) (fun c hc => by omega) (39 - nC)
  rw [show 39 - nC + nC + 1 = 40 by omega] at k2
  have e0 : f_Mo_weighed v = f_Mo_weighed_2 40 (nI 0) v := rfl
  rcases k2 with ⟨q1, q2, q3⟩ | ⟨q1, q3⟩
  · have h17 : ∀ t, t < nS → v1.2 17 (a t) = nI (bA d nP nS a t) := fun t ht => by
      have h0 := ha t ht
      have h := q2 (a t / 4) (by omega) (a t % 4) (by omega) (by
        rw [show 4 * (a t / 4) + a t % 4 = a t by omega]
        exact (setA_ne hn _).mpr ⟨t, ht, rfl⟩)
      rw [show 4 * (a t / 4) + a t % 4 = a t by omega] at h
      exact h
    have hT1 : Trd nS a v1 := fun s hs => by rw [k1.2 13 (by decide) (by decide)]; exact hT s hs
    obtain ⟨v2, j1, j2, j3⟩ := wg_sum hA ha nS 0 (by omega) v1 0 (k1.RM hM) hT1 h17 (fun t ht => by omega) (39 - nS)
    rw [show 39 - nS + nS + 1 = 40 by omega, wF_ext (m := 4 - nS) nS 0 0 (fun u hu => decide_eq_false (by omega)), show nS + (4 - nS) = 4 by omega] at j3
    have e1 : f_Mo_weighed v = f_Mo_weighed_80 40 (nI (wA d nP nS a)) (nI 0) v2 := by
      rw [e0, q3]
      exact j3
    have hM2 := j1.RM (k1.RM hM)
    have h4 := wg_ov hA hM2 (fun s hs => ⟨j2 s hs, by have := (bA_bd hA hs (ha s hs)).2; omega⟩) (nI (wA d nP nS a)) nS 0 (by omega) (39 - nS)
    rw [show 39 - nS + nS + 1 = 40 by omega, ← e1] at h4
    refine ⟨v2, k1.tr j1, ?_⟩
    rcases h4 with ⟨p1, p2⟩ | ⟨⟨t, p0, p1, p2⟩, p3⟩
    · obtain ⟨w1, w2⟩ := (ok_vld hn ha).mp q1
      exact Or.inl ⟨⟨ha, w1, w2, fun s hs => p1 s (Nat.zero_le _) hs⟩, j2, p2⟩
    · exact Or.inr ⟨fun hV => p2 (hV.2.2.2 t p1), p3⟩
  · exact ⟨v1, k1, Or.inr ⟨fun hV => q1 ((ok_vld hn ha).mpr ⟨hV.2.1, hV.2.2.1⟩), by rw [e0, q3]⟩⟩
end WG
