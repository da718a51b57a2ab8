/-! both sides: late -/
def dd (d : Nat → Nat → Nat) (s arr : Nat) (k : Nat) : Nat → Nat := if k = 8 then (fun i => if i = s then arr else d 8 i) else d k
theorem fits_dd (d : Nat → Nat → Nat) (s arr g ch set : Nat) : pFits (dd d s arr) g ch set ↔ pFits d g ch set := Iff.rfl
theorem dd_ne {d : Nat → Nat → Nat} {s arr k : Nat} (h : k ≠ 8) : dd d s arr k = d k := if_neg h
theorem dd_8 {d : Nat → Nat → Nat} {s arr : Nat} (i : Nat) : dd d s arr 8 i = if i = s then arr else d 8 i := rfl
theorem kF_out (e : Nat → Nat) : ∀ r s acc, kF e s (r + 1) acc = kF e s r acc * 40000 + e (s + r) := by
  intro r
  induction r with
  | zero => intro s acc; rfl
  | succ r ih =>
    intro s acc
    have h := ih (s + 1) (acc * 40000 + e s)
    rw [show s + 1 + r = s + (r + 1) by omega] at h
    exact h
theorem kF_bd {e : Nat → Nat} {N : Nat} (h : ∀ s, s < N → e s < 40000) : ∀ r, r ≤ N → kF e 0 r 0 < 40000 ^ r := by
  intro r
  induction r with
  | zero => intro _; exact (by decide : 0 < 1)
  | succ r ih =>
    intro hr
    have h1 := ih (by omega)
    have h2 := h r (by omega)
    rw [kF_out, Nat.zero_add, Nat.pow_succ]
    omega
def cD (e e' : Nat → Nat) : Nat → Nat
  | 0 => 0
  | n + 1 => cD e e' n + if e n = e' n then 0 else 1
theorem cD_le (e e' : Nat → Nat) : ∀ n, cD e e' n ≤ n := by
  intro n
  induction n with
  | zero => exact Nat.le_refl _
  | succ n ih =>
    show cD e e' n + (if e n = e' n then 0 else 1) ≤ n + 1
    split <;> omega
section LT
variable {nC nS nP g o pl : Nat} {d : Nat → Nat → Nat}
theorem ab_dd (hA : AbOk nC nS nP g o d) {s arr : Nat} (ha : arr ≤ 1000) : AbOk nC nS nP g o (dd d s arr) := by
  obtain ⟨h1, h2, h3, h4, h5, h6, h7, h8⟩ := hA
  refine ⟨h1, h2, h3, h4, h5, h6, h7, fun i hi => ?_⟩
  obtain ⟨a1, a2, a3, a4, a5, a6, a7⟩ := h8 i hi
  refine ⟨a1, a2, a3, a4, ?_, a6, a7⟩
  rw [dd_8]
  split
  · exact ha
  · exact a5
theorem rc_dd {c : St} (hC : RC nC nS nP g o d pl c) {s arr : Nat} : RC nC nS nP g o (dd d s arr) pl (sA c 8 s (nI arr)) := by
  obtain ⟨c0, c1, c2, c3, c8, c7, cR⟩ := hC
  refine ⟨c0, c1, c2, c3, c8, c7, fun k hk i => ?_⟩
  rw [sA_at]
  by_cases h : k = 8
  · subst h
    rw [if_pos rfl, dd_8]
    by_cases hi : i = s
    · rw [if_pos hi, if_pos hi]
    · rw [if_neg hi, if_neg hi]
      exact cR 8 hk i
  · rw [if_neg h, dd_ne h]
    exact cR k hk i
theorem rm_dd {v : St} (hM : RM nC nS nP g o d pl v) {s arr : Nat} : RM nC nS nP g o (dd d s arr) pl (sA v 8 s (nI arr)) := by
  obtain ⟨c0, c1, c2, c3, c8, c7, cR⟩ := hM
  refine ⟨c0, c1, c2, c3, c8, c7, fun k hk i => ?_⟩
  rw [sA_at]
  by_cases h : k = 8
  · subst h
    rw [if_pos rfl, dd_8]
    by_cases hi : i = s
    · rw [if_pos hi, if_pos hi]
    · rw [if_neg hi, if_neg hi]
      exact cR 8 hk i
  · rw [if_neg h, dd_ne h]
    exact cR k hk i
theorem cache_dd {c c' : St} (hK : Cache nC nS d c) (h : c'.2 13 = c.2 13) (s arr : Nat) : Cache nC nS (dd d s arr) c' := by
  unfold Cache at hK ⊢
  rw [h]
  exact hK
/-- the class counts the ships that moved -/
theorem mv_from (hA : AbOk nC nS nP g o d) {c : St} {b ch b' ch' : Nat → Nat} (h17 : ∀ s, s < nS → c.2 17 s = nI (b' s) ∧ b' s < 20000) (h18 : ∀ s, s < nS → c.2 18 s = nI (ch' s) ∧ ch' s ≤ 1) (h20 : ∀ s, s < nS → c.2 20 s = nI (b s) ∧ b s < 20000) (h21 : ∀ s, s < nS → c.2 21 s = nI (ch s) ∧ ch s ≤ 1) : ∀ r s, s + r = 4 → ∀ n, f_Tt_differences_bs_pv_5 (n + r + 1) (nI (2 ^ nS - 1)) (nI (cD (fun s => 2 * b s + ch s) (fun s => 2 * b' s + ch' s) (min s nS))) (nI s) c = some (nI (cD (fun s => 2 * b s + ch s) (fun s => 2 * b' s + ch' s) nS), c) := by
  have hn := hA.2.1
  have hal := all_lt hn
  intro r
  induction r with
  | zero =>
    intro s hs n
    have hs : s = 4 := by omega
    subst hs
    show b_Tt_differences_bs_pv_5 (f_Tt_differences_bs_pv_5 n) _ _ (nI 4) c = _
    unfold b_Tt_differences_bs_pv_5
    rw [if_pos (show (4 : Int32) ≤ nI 4 by decide), show min 4 nS = nS by omega]
  | succ r ih =>
    intro s hs n
    have hs4 : s < 4 := by omega
    have e : ∀ x, f_Tt_differences_bs_pv_5 (n + (r + 1) + 1) (nI (2 ^ nS - 1)) x (nI s) c = b_Tt_differences_bs_pv_5 (f_Tt_differences_bs_pv_5 (n + r + 1)) (nI (2 ^ nS - 1)) x (nI s) c := fun x => rfl
    rw [e]
    unfold b_Tt_differences_bs_pv_5 f_Tt_differences_bs_pv_33
    rw [if_neg (ge4 hs4)]
    by_cases hsn : s < nS
    · rw [holds_t hs4 hal (by rw [all_bit]; exact decide_eq_true hsn), Option.bind_some]
      dsimp only
      rw [if_neg one_ne, df_bs_pv hs4, Option.bind_some]
      dsimp only
      have h := ih (s + 1) (by omega) n
      rw [show min (s + 1) nS = s + 1 by omega] at h
      rw [show min s nS = s by omega, nI_1, nI_1]
      obtain ⟨p1, p2⟩ := h17 s hsn
      obtain ⟨p3, p4⟩ := h18 s hsn
      obtain ⟨p5, p6⟩ := h20 s hsn
      obtain ⟨p7, p8⟩ := h21 s hsn
      rw [p1, p3, p5, p7]
      have ec : cD (fun s => 2 * b s + ch s) (fun s => 2 * b' s + ch' s) (s + 1) = cD (fun s => 2 * b s + ch s) (fun s => 2 * b' s + ch' s) s + if 2 * b s + ch s = 2 * b' s + ch' s then 0 else 1 := rfl
      rw [ec] at h
      by_cases hq : b' s = b s ∧ ch' s = ch s
      · rw [if_pos (show nI (b' s) = nI (b s) ∧ nI (ch' s) = nI (ch s) by rw [hq.1, hq.2]; exact ⟨rfl, rfl⟩), if_pos rfl]
        rw [if_pos (by omega), Nat.add_zero] at h
        exact h
      · rw [if_neg (show ¬ (nI (b' s) = nI (b s) ∧ nI (ch' s) = nI (ch s)) from fun h9 => hq ⟨(nI_eq (by omega) (by omega)).mp h9.1, (nI_eq (by omega) (by omega)).mp h9.2⟩), if_neg one_ne]
        rw [if_neg (by omega)] at h
        exact h
    · rw [holds_f hs4 hal (by rw [all_bit]; exact decide_eq_false hsn), Option.bind_some]
      dsimp only
      rw [if_pos rfl, nI_1, show min s nS = min (s + 1) nS by omega]
      exact ih (s + 1) (by omega) n
theorem i64_40000 : (40000 : Int64).toInt = 40000 := by decide
theorem i64_2 : (2 : Int64).toInt = 2 := by decide
theorem i32_l {n : Nat} (h : n < 2 ^ 31) : (nI n).toInt64.toInt = (n : Int) := by rw [Jvm.Kit.i64_of_i32, nI_toInt h]
theorem pw40 {t : Nat} (ht : t ≤ 4) : 40000 ^ t ≤ 2560000000000000000 := by
  have h1 : 40000 ^ t ≤ 40000 ^ 4 := Nat.pow_le_pow_right (by decide) ht
  have h2 : 40000 ^ 4 = 2560000000000000000 := by decide
  omega
theorem was_from (hA : AbOk nC nS nP g o d) {v : St} (hM : RM nC nS nP g o d pl v) {b a : Nat → Nat} (h16 : ∀ s, s < nS → v.2 16 s = nI (b s) ∧ b s < 20000) (h15 : ∀ s, s < nS → v.2 15 s = nI (a s) ∧ a s < 8) (x1 x2 : Int32) : ∀ r t, t + r = nS → ∀ (x : Int64), x.toInt = (kF (fun s => 2 * b s + a s / 4) 0 t 0 : Nat) → ∀ n, ∃ y : Int64, y.toInt = (kF (fun s => 2 * b s + a s / 4) 0 nS 0 : Nat) ∧ f_Mo_late_57 (n + r + 1) x1 x2 x (nI t) v = (if xin x1 4 then xlet (sA v 8 x1.toNatClampNeg x2) (fun s5 => (f_Mo_search s5).bind (fun o6 => (if o6.1 < 0 then f_Mo_late_126 y 0 o6.2 else f_Mo_late_126 y 1 o6.2))) else none) := by
  have hn := hA.2.1
  have bd : ∀ s, s < nS → (fun s => 2 * b s + a s / 4) s < 40000 := fun s hs => by have := (h16 s hs).2; have := (h15 s hs).2; show 2 * b s + a s / 4 < 40000; omega
  intro r
  induction r with
  | zero =>
    intro t ht x hx n
    have ht : t = nS := by omega
    subst ht
    refine ⟨x, hx, ?_⟩
    show b_Mo_late_57 (f_Mo_late_57 n) x1 x2 x (nI t) v = _
    unfold b_Mo_late_57
    rw [hM.2.1, if_pos (nI_le (Nat.le_refl _) (by omega))]
  | succ r ih =>
    intro t ht x hx n
    have htn : t < nS := by omega
    have e : f_Mo_late_57 (n + (r + 1) + 1) x1 x2 x (nI t) v = b_Mo_late_57 (f_Mo_late_57 (n + r + 1)) x1 x2 x (nI t) v := rfl
    obtain ⟨p1, p2⟩ := h16 t htn
    obtain ⟨p3, p4⟩ := h15 t htn
    have q1 : nI (a t) / 4 = nI (a t / 4) := by rw [z4, qdiv (by omega) (by decide) (by decide)]
    have hb := kF_bd bd (t + 1) (by omega)
    have hb4 := pw40 (t := t + 1) (by omega)
    have ek : kF (fun s => 2 * b s + a s / 4) 0 (t + 1) 0 = kF (fun s => 2 * b s + a s / 4) 0 t 0 * 40000 + (2 * b t + a t / 4) := by
      rw [kF_out, Nat.zero_add]
    have hv : ((40000 * x) + (2 * ((nI (b t)).toInt64)) + ((nI (a t / 4)).toInt64)).toInt = (kF (fun s => 2 * b s + a s / 4) 0 (t + 1) 0 : Nat) := by
      have m1 : (40000 * x).toInt = 40000 * (kF (fun s => 2 * b s + a s / 4) 0 t 0 : Nat) := by
        rw [Jvm.Kit.i64_mul, i64_40000, hx]
        · rw [i64_40000, hx]; omega
        · rw [i64_40000, hx]; omega
      have m2 : (2 * ((nI (b t)).toInt64)).toInt = 2 * (b t : Int) := by
        rw [Jvm.Kit.i64_mul, i64_2, i32_l (by omega)]
        · rw [i64_2, i32_l (by omega)]; omega
        · rw [i64_2, i32_l (by omega)]; omega
      have m3 : ((nI (a t / 4)).toInt64).toInt = ((a t / 4 : Nat) : Int) := i32_l (by omega)
      have m4 : ((40000 * x) + (2 * ((nI (b t)).toInt64))).toInt = 40000 * (kF (fun s => 2 * b s + a s / 4) 0 t 0 : Nat) + 2 * (b t : Int) := by
        rw [Jvm.Kit.i64_add, m1, m2]
        · rw [m1, m2]; omega
        · rw [m1, m2]; omega
      rw [Jvm.Kit.i64_add, m4, m3]
      · omega
      · rw [m4, m3]; omega
      · rw [m4, m3]; omega
    obtain ⟨y, y1, y2⟩ := ih (t + 1) (by omega) _ hv n
    refine ⟨y, y1, ?_⟩
    rw [e, ← y2]
    unfold b_Mo_late_57
    rw [hM.2.1, if_neg (nI_ge htn (by omega))]
    simp only [xi (show t < 4 by omega) (by decide), qcl (show t < 2 ^ 31 by omega), p1, p3, q1, xl, nI_1]
theorem cmp0 (x y : Int64) : lg_cmp x y = 0 ↔ x = y := by
  unfold lg_cmp
  by_cases h1 : x > y
  · rw [if_pos h1]
    constructor
    · intro h; exact absurd h one_ne
    · intro h
      rw [h] at h1
      exact absurd h1 (lg_lt_not h1)
  · rw [if_neg h1]
    by_cases h2 : x = y
    · rw [if_pos h2]
      exact ⟨fun _ => h2, fun _ => rfl⟩
    · rw [if_neg h2]
      exact ⟨fun h => absurd h (by decide), fun h => absurd h h2⟩
theorem un_from (hA : AbOk nC nS nP g o d) {v : St} {e b a : Nat → Nat} (he : ∀ s, s < nS → e s < 40000) (h16 : ∀ s, s < nS → v.2 16 s = nI (b s) ∧ b s < 20000) (h15 : ∀ s, s < nS → v.2 15 s = nI (a s) ∧ a s < 8) : ∀ r, r ≤ nS → ∀ (x : Int64) (m : Nat), x.toInt = (kF e 0 r 0 : Nat) → ∀ n, f_Mo_late_149 (n + r + 1) x (nI m) (nI r - 1) v = some (nI (m + cD e (fun s => 2 * b s + a s / 4) r), v) := by
  have hn := hA.2.1
  intro r
  induction r with
  | zero =>
    intro _ x m hx n
    show b_Mo_late_149 (f_Mo_late_149 n) x (nI m) (nI 0 - 1) v = _
    unfold b_Mo_late_149
    rw [if_pos (show nI 0 - 1 < 0 by decide)]
    rfl
  | succ r ih =>
    intro hr x m hx n
    have hrn : r < nS := by omega
    have eq : f_Mo_late_149 (n + (r + 1) + 1) x (nI m) (nI (r + 1) - 1) v = b_Mo_late_149 (f_Mo_late_149 (n + r + 1)) x (nI m) (nI (r + 1) - 1) v := rfl
    obtain ⟨p1, p2⟩ := h16 r hrn
    obtain ⟨p3, p4⟩ := h15 r hrn
    have he9 := he r hrn
    have q1 : nI (a r) / 4 = nI (a r / 4) := by rw [z4, qdiv (by omega) (by decide) (by decide)]
    have hk : x.toInt = ((kF e 0 r 0 * 40000 + e r : Nat) : Int) := by
      rw [hx, kF_out, Nat.zero_add]
    have hx0 : 0 ≤ x.toInt := by rw [hk]; omega
    have hdv : (x / 40000).toInt = (kF e 0 r 0 : Nat) := by
      rw [lg_ldiv_nonneg hx0 (by rw [i64_40000]; decide), i64_40000, hk]
      omega
    have hrm : (x - x / 40000 * 40000).toInt = (e r : Int) := by
      rw [Jvm.Kit.i64_rem_nonneg hx0, i64_40000, hk]
      omega
    have hnw : ((2 * ((nI (b r)).toInt64)) + ((nI (a r / 4)).toInt64)).toInt = ((2 * b r + a r / 4 : Nat) : Int) := by
      have m2 : (2 * ((nI (b r)).toInt64)).toInt = 2 * (b r : Int) := by
        rw [Jvm.Kit.i64_mul, i64_2, i32_l (by omega)]
        · rw [i64_2, i32_l (by omega)]; omega
        · rw [i64_2, i32_l (by omega)]; omega
      have m3 : ((nI (a r / 4)).toInt64).toInt = ((a r / 4 : Nat) : Int) := i32_l (by omega)
      rw [Jvm.Kit.i64_add, m2, m3]
      · omega
      · rw [m2, m3]; omega
      · rw [m2, m3]; omega
    have ec : cD e (fun s => 2 * b s + a s / 4) (r + 1) = cD e (fun s => 2 * b s + a s / 4) r + if e r = 2 * b r + a r / 4 then 0 else 1 := rfl
    have hcmp : lg_cmp (x - x / 40000 * 40000) ((2 * ((nI (b r)).toInt64)) + ((nI (a r / 4)).toInt64)) = 0 ↔ e r = 2 * b r + a r / 4 := by
      rw [cmp0, ← Int64.toInt_inj, hrm, hnw]
      omega
    rw [eq, mI_succ, ec]
    unfold b_Mo_late_149 f_Mo_late_193
    rw [if_neg (nI_pos (by omega))]
    simp only [xi (show r < 4 by omega) (by decide), qcl (show r < 2 ^ 31 by omega), p1, p3, q1, xl]
    rw [mI_add]
    by_cases hq : e r = 2 * b r + a r / 4
    · rw [if_pos (hcmp.mpr hq), if_pos hq, Nat.add_zero, Int32.add_zero]
      exact ih (by omega) _ m hdv n
    · rw [if_neg (fun h => hq (hcmp.mp h)), if_neg hq, nI_1, ih (by omega) _ (m + 1) hdv n, show m + 1 + cD e (fun s => 2 * b s + a s / 4) r = m + (cD e (fun s => 2 * b s + a s / 4) r + 1) by omega]
end LT
theorem late_err {v : St} (x1 x2 : Int32) {y : Int32} (hy : ¬ y ≤ 0) : f_Mo_late_40 x1 x2 y v = some (0, sI v 0 y) := by
  unfold f_Mo_late_40
  rw [xl, if_neg (show ¬ (sI v 0 y).1 0 ≤ 0 from hy)]
theorem late_sim {c v : St} (h : Rel c v) (x1 x2 : Int32) : ∃ (k : Nat) (r : Int32) (c' : St) (r' : Int32) (v' : St), f_LR_late x1 x2 c = some ((k, r), c') ∧ f_Mo_late x1 x2 v = some (r', v') ∧ ((k = 0 ∧ v'.1 0 = 0 ∧ r = r') ∨ (k = 3 ∧ v'.1 0 = 1) ∨ (k = 1 ∧ v'.1 0 = 2) ∨ (k = 2 ∧ v'.1 0 = 3)) ∧ Rel c' v' := by
  obtain ⟨nC, nS, nP, g, o, d, pl, hA, hp, hC, hM, hK, hPl⟩ := id h
  have hn := hA.2.1
  have hC2 := hA.1
  unfold f_LR_late f_Mo_late
  rw [fl_has_eq hC.2.2.1 hn, mo_isShip_eq hM.2.1, Option.bind_some, Option.bind_some]
  dsimp only
  by_cases hx : 0 ≤ x1 ∧ x1 < nI nS
  · rw [if_pos hx, if_neg one_ne, if_neg one_ne, within_eq, in_eq, Option.bind_some, Option.bind_some]
    dsimp only
    by_cases hx2 : (0 : Int32) ≤ x2 ∧ x2 ≤ 1000
    · rw [if_pos hx2, if_neg one_ne, if_neg one_ne, has_plan hp hC, hM.2.2.2.2.2.1, Option.bind_some]
      dsimp only
      rcases (show pl = 0 ∨ pl = 1 by omega) with rfl | rfl
      · rw [if_pos (show nI 0 = 0 from rfl), if_pos (show nI 0 = 0 from rfl), late_err x1 x2 (show ¬ (3 : Int32) ≤ 0 by decide)]
        exact ⟨2, 0, c, 0, sI v 0 3, rfl, rfl, Or.inr (Or.inr (Or.inr ⟨rfl, rfl⟩)), relI h 3⟩
      · rw [if_neg (show ¬ nI 1 = 0 from one_ne), if_neg (show ¬ nI 1 = 0 from one_ne)]
        obtain ⟨s, hs, rfl⟩ := ix_nat (by omega) hx
        obtain ⟨arr, -, harr, rfl⟩ := in_nat (lo := 0) (hi := 1000) (by omega) (by omega) hx2
        obtain ⟨b, chs, rs, p1, p2, p3⟩ := hPl rfl
        obtain ⟨c1, k1, k2, k3, k4, k5⟩ := copyP_eq c
        have hC1 : RC nC nS nP g o d 1 c1 := RC_of hC (fun k hk => k2 k (by omega)) (by rw [k2 7 (by decide)]; exact hC.2.2.2.2.2.1) (fun k hk => k4 k (by omega) (by omega) (by omega))
        have hK1 : Cache nC nS (dd d s arr) (sA c1 8 s (nI arr)) := cache_dd hK (by
          funext i
          rw [sA_at, if_neg (by decide), k4 13 (by decide) (by decide) (by decide)]) s arr
        have hM0 : RM nC nS nP g o d 1 (sI v 0 0) := hM
        obtain ⟨pl', c3, x, v3, s1, s2, s3, s4, s5, s6, s7, s8⟩ := search_sim (ab_dd hA (s := s) harr) (rc_dd hC1) hK1 (rm_dd hM0 (s := s) (arr := arr))
        obtain ⟨y, y1, y2⟩ := was_from hA hM0 (b := b) (a := fun s => 4 * chs s + rs s) (fun s hs => ⟨(p1 s hs).2.2.2.1, (p1 s hs).2.2.2.2.2.2.2.1⟩) (fun s hs => ⟨(p1 s hs).2.2.2.2.1, by have := (p1 s hs).2.2.2.2.2.1; have := (p1 s hs).2.2.2.2.2.2.1; show 4 * chs s + rs s < 8; omega⟩) (nI s) (nI arr) nS 0 (by omega) 0 (by rfl) (39 - nS)
        rw [show 39 - nS + nS + 1 = 40 by omega] at y2
        have eM : f_Mo_late_40 (nI s) (nI arr) 0 v = (if x < 0 then f_Mo_late_126 y 0 v3 else f_Mo_late_126 y 1 v3) := by
          unfold f_Mo_late_40
          rw [xl, if_pos (show (sI v 0 0).1 0 ≤ 0 from (by decide : (0 : Int32) ≤ 0))]
          refine Eq.trans y2 ?_
          rw [xi (show s < 4 by omega) (by decide), xl, qcl (by omega), s2, Option.bind_some]
        rw [eM]
        unfold f_Pl_keepForComparison f_Fl_setArrival
        rw [k1, Option.bind_some, Option.bind_some, hC1.has hA hs, Option.bind_some]
        dsimp only
        rw [if_neg one_ne, xi (show s < 4 by omega) (by decide), xl, qcl (by omega), Option.bind_some, s1, Option.bind_some]
        dsimp only
        have hM3 : RM nC nS nP g o (dd d s arr) 1 v3 := RM_of (rm_dd hM0 (s := s) (arr := arr)) s5 s6
        have hMp : ∀ q, RM nC nS nP g o (dd d s arr) q (sI v3 6 (nI q)) := fun q => by
          obtain ⟨c0, c1, c2, c3, c8, c7, cR⟩ := hM3
          exact ⟨c0, c1, c2, c3, c8, rfl, cR⟩
        have h00 : ∀ q, (sI v3 6 q).1 0 = 0 := fun q => by
          rw [sI_at, if_neg (by decide), s5]
          rfl
        rcases s8 with ⟨rfl, rfl⟩ | ⟨rfl, w, w1, rfl, w2, w3⟩
        · rw [if_pos (show nI 0 = 0 from rfl), if_pos (show (-1 : Int32) < 0 by decide)]
          unfold f_Mo_late_126
          rw [if_pos (Or.inl rfl), xl, if_pos (show (sI v3 6 0).1 6 = 0 from rfl)]
          exact ⟨0, -1, c3, -1, sI v3 6 (nI 0), rfl, rfl, Or.inl ⟨rfl, h00 _, rfl⟩, nC, nS, nP, g, o, dd d s arr, 0, ab_dd hA harr, by decide, s3, hMp 0, s4, fun h => by cases h⟩
        · rw [if_neg (show ¬ nI 1 = 0 from one_ne), if_neg (nI_pos (by omega))]
          obtain ⟨b', chs', rs', p1', p2', p3'⟩ := id w3
          have hk20 : ∀ t, t < nS → c3.2 20 t = nI (b t) ∧ b t < 20000 := fun t ht => by
            rw [s7 20 (by decide), sA_at, if_neg (by decide), ((k5 t (by omega)).1 (Nat.zero_le _)).1]
            exact ⟨(p1 t ht).1, (p1 t ht).2.2.2.2.2.2.2.1⟩
          have hk21 : ∀ t, t < nS → c3.2 21 t = nI (chs t) ∧ chs t ≤ 1 := fun t ht => by
            rw [s7 21 (by decide), sA_at, if_neg (by decide), ((k5 t (by omega)).1 (Nat.zero_le _)).2.1]
            exact ⟨(p1 t ht).2.1, by have := (p1 t ht).2.2.2.2.2.1; omega⟩
          have hmv := mv_from hA (c := c3) (fun t ht => ⟨(p1' t ht).1, (p1' t ht).2.2.2.2.2.2.2.1⟩) (fun t ht => ⟨(p1' t ht).2.1, by have := (p1' t ht).2.2.2.2.2.1; omega⟩) hk20 hk21 4 0 rfl 35
          rw [show min 0 nS = 0 by omega] at hmv
          have hmv2 : f_Tt_differences_bs_pv (nI (2 ^ nS - 1)) c3 = some (nI (cD (fun s => 2 * b s + chs s) (fun s => 2 * b' s + chs' s) nS), c3) := hmv
          have e4 : (fun s => 2 * b s + (4 * chs s + rs s) / 4) = (fun s => 2 * b s + (4 * chs s + rs s) / 4) := rfl
          have hun := un_from hA (v := sI v3 6 (nI 1)) (e := fun s => 2 * b s + (fun s => 4 * chs s + rs s) s / 4) (b := b') (a := fun s => 4 * chs' s + rs' s) (fun t ht => by
              have := (p1 t ht).2.2.2.2.2.1
              have := (p1 t ht).2.2.2.2.2.2.1
              have := (p1 t ht).2.2.2.2.2.2.2.1
              show 2 * b t + (4 * chs t + rs t) / 4 < 40000
              omega) (fun t ht => ⟨(p1' t ht).2.2.2.1, (p1' t ht).2.2.2.2.2.2.2.1⟩) (fun t ht => ⟨(p1' t ht).2.2.2.2.1, by
              have := (p1' t ht).2.2.2.2.2.1
              have := (p1' t ht).2.2.2.2.2.2.1
              show 4 * chs' t + rs' t < 8
              omega⟩) nS (Nat.le_refl _) y 0 y1 (39 - nS)
          rw [show 39 - nS + nS + 1 = 40 by omega, Nat.zero_add] at hun
          have hcc : ∀ n, n ≤ nS → cD (fun s => 2 * b s + (fun s => 4 * chs s + rs s) s / 4) (fun s => 2 * b' s + (fun s => 4 * chs' s + rs' s) s / 4) n = cD (fun s => 2 * b s + chs s) (fun s => 2 * b' s + chs' s) n := by
            intro n
            induction n with
            | zero => intro _; rfl
            | succ n ih =>
              intro hn9
              have r1 := (p1 n (by omega)).2.2.2.2.2.2.1
              have r2 := (p1' n (by omega)).2.2.2.2.2.2.1
              show cD _ _ n + (if 2 * b n + (4 * chs n + rs n) / 4 = 2 * b' n + (4 * chs' n + rs' n) / 4 then 0 else 1) = cD _ _ n + (if 2 * b n + chs n = 2 * b' n + chs' n then 0 else 1)
              rw [ih (by omega), show (4 * chs n + rs n) / 4 = chs n by omega, show (4 * chs' n + rs' n) / 4 = chs' n by omega]
          rw [hcc nS (Nat.le_refl _)] at hun
          unfold f_Pl_moved f_Mo_late_126
          rw [all_eq (ab_dd hA harr) s3, Option.bind_some]
          dsimp only
          rw [hmv2, Option.bind_some, Option.bind_some, if_pos (Or.inr rfl), xl, if_neg (show ¬ (sI v3 6 1).1 6 = 0 from one_ne), xl]
          dsimp only
          have h2s : (sI v3 6 1).1 2 = nI nS := hM3.2.1
          rw [h2s]
          exact ⟨0, _, c3, _, sI v3 6 (nI 1), rfl, hun, Or.inl ⟨rfl, h00 _, rfl⟩, nC, nS, nP, g, o, dd d s arr, 1, ab_dd hA harr, by decide, s3, hMp 1, s4, fun _ => w3.keep (fun _ _ => rfl) (fun _ _ => rfl)⟩
    · rw [if_neg hx2, if_pos rfl, if_pos rfl, late_err x1 x2 (show ¬ (2 : Int32) ≤ 0 by decide)]
      exact ⟨1, 0, c, 0, sI v 0 2, rfl, rfl, Or.inr (Or.inr (Or.inl ⟨rfl, rfl⟩)), relI h 2⟩
  · rw [if_neg hx, if_pos rfl, if_pos rfl, late_err x1 x2 (show ¬ (1 : Int32) ≤ 0 by decide)]
    exact ⟨3, 0, c, 0, sI v 0 1, rfl, rfl, Or.inr (Or.inl ⟨rfl, rfl⟩), relI h 1⟩
