/-! the class's search -/
section SE
variable {nC nS nP g o : Nat} {d : Nat → Nat → Nat} {p : Nat → Nat} {left c r : Nat}
theorem ge16 {s : Nat} (h : s < 16) : ¬ (16 : Int32) ≤ nI s := nI_ge (b := 16) h (by decide)
theorem PutT.RC {j : Nat} {x y z : Int32} {pl : Nat} {st st' : St} (h : PutT j x y z 0 st st') (hC : RC nC nS nP g o d pl st) : RC nC nS nP g o d pl st' := RC_of hC (fun k _ => by rw [h.1]) (by rw [h.1]; exact hC.2.2.2.2.2.1) (fun k hk => h.2.1 k (by omega) (by omega) (by omega))
theorem step_eq (hA : AbOk nC nS nP g o d) {j : Nat} (hj : j < 2 ^ nS) (h0 : j ≠ 0) (hl : left < 16) (hc : c < nC) {pl : Nat} {st : St} (hC : RC nC nS nP g o d pl st) {fl : Nat × Nat} (hfl : fl.1 ≤ 11000) (h1 : fl.2 ≤ 1) {w : Nat}
    (REC : Int32 → Int32 → Int32 → Int32 → Int32 → Int32 → St → Option St) (K : Int32 → Int32 → Int32 → Int32 → Int32 → Int32 → Int32 → Int32 → St → Option St) :
    ∃ st2, PutT j (nI c) (nI r) (nI (bgS d nP c j fl)) 0 st st2 ∧ (if nI fl.2 = nI (dirN d j) then f_Pl_tryRuns_110 REC K (nI c) (nI r) (nI left) (nI fl.1) (nI fl.2) (nI w) (nI (d 2 c)) (nI j) (nI (dirN d j)) (nI fl.1) st else f_Pl_tryRuns_110 REC K (nI c) (nI r) (nI left) (nI fl.1) (nI fl.2) (nI w) (nI (d 2 c)) (nI j) (nI (dirN d j)) (nI fl.1 + nI (d 2 c)) st) = (REC (nI c) (nI (r + 1)) (nI (lm left j)) (nI (bgS d nP c j fl + d 2 c)) (nI (1 - dirN d j)) (nI (w + wS d (fun _ => bgS d nP c j fl) j.testBit)) st2).bind (fun s3 => K (nI c) (nI r) (nI left) (nI fl.1) (nI fl.2) (nI w) (nI (d 2 c)) (nI (j + 1)) s3) := by
  have hn := hA.2.1
  have h16 := pw_le hn
  have dC := hA.2.2.2.2.2.1 c hc
  have hD := dirN_le hA hj h0
  have key : ∀ y, y ≤ 11060 → ∃ st2, PutT j (nI c) (nI r) (nI (opn d c nP (arrF d j 0 4 y))) 0 st st2 ∧ f_Pl_tryRuns_110 REC K (nI c) (nI r) (nI left) (nI fl.1) (nI fl.2) (nI w) (nI (d 2 c)) (nI j) (nI (dirN d j)) (nI y) st = (REC (nI c) (nI (r + 1)) (nI (lm left j)) (nI (opn d c nP (arrF d j 0 4 y) + d 2 c)) (nI (1 - dirN d j)) (nI (w + wS d (fun _ => opn d c nP (arrF d j 0 4 y)) j.testBit)) st2).bind (fun s3 => K (nI c) (nI r) (nI left) (nI fl.1) (nI fl.2) (nI w) (nI (d 2 c)) (nI (j + 1)) s3) := by
    intro y hy
    have ha0 : arrF d j 0 4 0 ≤ 1000 := arrF_le 4 0 0 1000 (arr_le hA hj) (by omega)
    have hay : arrF d j 0 4 y ≤ 11060 := arrF_le 4 0 y 11060 (fun u hu => by have := arr_le hA hj u hu; omega) hy
    have hop : opn d c nP (arrF d j 0 4 y) ≤ 11060 := spIt_le (fun k hk => by have := hA.2.2.2.2.2.2.1 k hk; omega) 8 _ hay
    obtain ⟨st2, e2, hP⟩ := put_eq (set := j) (by omega) (nI c) (nI r) (nI (opn d c nP (arrF d j 0 4 y))) st
    refine ⟨st2, hP, ?_⟩
    unfold f_Pl_tryRuns_110 f_Pl_tryRuns_186
    rw [la_eq hA hj hC, Option.bind_some]
    dsimp only
    have e : (if nI y < nI (arrF d j 0 4 0) then nI (arrF d j 0 4 0) else nI y) = nI (arrF d j 0 4 y) := by
      have e9 := arrF_max (d := d) (set := j) 4 0 y 0
      rw [if_neg (Nat.not_lt_zero _)] at e9
      rw [e9]
      by_cases h : y < arrF d j 0 4 0
      · rw [if_pos h, if_pos (nI_lt h (by omega))]
      · rw [if_neg h, if_neg (fun h9 => h ((nI_ltI (by omega) (by omega)).mp h9))]
    rw [e, open_eq hA hc hC (by omega), Option.bind_some]
    dsimp only
    rw [e2, Option.bind_some]
    have hwt := wt_eq (set := j) (b := opn d c nP (arrF d j 0 4 y)) (by omega) (by omega) (fun s hs => Nat.le_trans (arrF_mem 4 0 y s (Nat.zero_le _) (by have := bit_lt hj hs; omega) hs) (spIt_ge 8 _)) (hP.RC hC)
    rw [hwt, Option.bind_some]
    dsimp only
    rw [nI_1, nI_1, nI_add, nI_add, lm_eq hl (by omega), z1, pk_sub hD]
  by_cases hd : fl.2 = dirN d j
  · obtain ⟨st2, k1, k2⟩ := key fl.1 (by omega)
    have eb : bgS d nP c j fl = opn d c nP (arrF d j 0 4 fl.1) := by
      unfold bgS
      rw [if_pos hd]
    rw [eb]
    exact ⟨st2, k1, by rw [if_pos (by rw [hd]), k2]⟩
  · obtain ⟨st2, k1, k2⟩ := key (fl.1 + d 2 c) (by omega)
    have eb : bgS d nP c j fl = opn d c nP (arrF d j 0 4 (fl.1 + d 2 c)) := by
      unfold bgS
      rw [if_neg hd]
    rw [eb]
    exact ⟨st2, k1, by rw [if_neg (fun h => hd ((nI_eq (by omega) (by omega)).mp h)), nI_add, k2]⟩
/-- what one call of tryRuns does at a node -/
def TrySpec (nC nS nP g o : Nat) (d : Nat → Nat → Nat) (f : Nat) (REC : Int32 → Int32 → Int32 → Int32 → Int32 → Int32 → St → Option St) : Prop := ∀ (p : Nat → Nat) (left c r : Nat) (st : St) (X : (Nat → Nat) → Prop), NodeP nC nS g d p left c r → TrP d nP nS p left st → pc left + (nC - c) < f → Bst nC nS nP g o d X st →
  ∃ st', REC (nI c) (nI r) (nI left) (nI (cst d nP (setA nS p) c r).1) (nI (cst d nP (setA nS p) c r).2) (nI (wP d nP nS p left)) st = some st' ∧ Fr left st st' ∧ Bst nC nS nP g o d (fun a => X a ∨ Ext9 nS p left (4 * c + r) a) st'
theorem TrP.fr (hn : nS ≤ 4) {st st' : St} (hT : TrP d nP nS p left st) (hF : Fr left st st') : TrP d nP nS p left st' := by
  intro s hs hl
  obtain ⟨h1, h2, h3⟩ := hF.2 s (by omega) hl
  rw [h1, h2, h3]
  exact hT s hs hl
theorem loop_eq (hA : AbOk nC nS nP g o d) {f : Nat} {REC : Int32 → Int32 → Int32 → Int32 → Int32 → Int32 → St → Option St} (hREC : TrySpec nC nS nP g o d f REC) {X : (Nat → Nat) → Prop} (hN : NodeP nC nS g d p left c r) (hc : c < nC) (hl0 : left ≠ 0) (hf : pc left + (nC - c) < f + 1) :
    ∀ m j, j + m = 16 → 1 ≤ j → ∀ st, TrP d nP nS p left st → Bst nC nS nP g o d (fun a => X a ∨ (Ext9 nS p left (4 * c + r) a ∧ setA nS a (4 * c + r) ≠ 0 ∧ setA nS a (4 * c + r) < j)) st → ∀ n, ∃ st', f_Pl_tryRuns_56 REC (n + m + 1) (nI c) (nI r) (nI left) (nI (cst d nP (setA nS p) c r).1) (nI (cst d nP (setA nS p) c r).2) (nI (wP d nP nS p left)) (nI (d 2 c)) (nI j) st = some st' ∧ Fr left st st' ∧ Bst nC nS nP g o d (fun a => X a ∨ Ext9 nS p left (4 * c + r) a) st' := by
  have hn := hA.2.1
  have hC2 := hA.1
  have h16 := pw_le hn
  have hl16 : left < 16 := by have := hN.1; omega
  have hr : r < 4 := by have := hN.2.1; have := pc_pos hl16 hl0; omega
  have hcb := cst_bd hA hc (S := setA nS p) (fun q => setA_pow hn q) r
  intro m
  induction m with
  | zero =>
    intro j hj _ st hT hB n
    have hj : j = 16 := by omega
    subst hj
    obtain ⟨n1, n2, n3, n4, n5, n6, n7, n8⟩ := hN
    have hN2 : NodeP nC nS g d p left (c + 1) 0 := ⟨n1, by omega, by omega, fun s hs hl => by have := n4 s hs hl; omega, n5, n6, n7, fun k hk => by omega⟩
    obtain ⟨st', h1, h2, h3⟩ := hREC p left (c + 1) 0 st _ hN2 hT (by omega) hB
    refine ⟨st', ?_, h2, h3.mono (fun a hV ha => ?_)⟩
    · show b_Pl_tryRuns_56 REC (f_Pl_tryRuns_56 REC n) _ _ _ _ _ _ _ (nI 16) st = _
      unfold b_Pl_tryRuns_56
      rw [if_pos (show (16 : Int32) ≤ nI 16 by decide), nI_1]
      have h1' : REC (nI (c + 1)) 0 (nI left) 0 0 (nI (wP d nP nS p left)) st = some st' := h1
      rw [h1', Option.bind_some]
    · rcases ha with ha | ha
      · exact Or.inl (Or.inl ha)
      · by_cases hz : setA nS a (4 * c + r) = 0
        · refine Or.inr (fun s hs => ⟨(ha s hs).1, fun hl => ?_⟩)
          have h4 := (ha s hs).2 hl
          have hno : ∀ t, t < nS → a t ≠ 4 * c + r := fun t ht he => (setA_ne hn _).mpr ⟨t, ht, he⟩ hz
          rcases Nat.lt_or_ge (a s) (4 * (c + 1) + 0) with h5 | h5
          · exfalso
            have h6 := hno s hs
            obtain ⟨t, ht, he⟩ := hV.2.2.1 s hs r (by omega)
            exact hno t ht (by omega)
          · exact h5
        · exact Or.inl (Or.inr ⟨ha, hz, setA_lt _⟩)
  | succ m ih =>
    intro j hj hj1 st hT hB n
    have e : f_Pl_tryRuns_56 REC (n + (m + 1) + 1) (nI c) (nI r) (nI left) (nI (cst d nP (setA nS p) c r).1) (nI (cst d nP (setA nS p) c r).2) (nI (wP d nP nS p left)) (nI (d 2 c)) (nI j) st = b_Pl_tryRuns_56 REC (f_Pl_tryRuns_56 REC (n + m + 1)) (nI c) (nI r) (nI left) (nI (cst d nP (setA nS p) c r).1) (nI (cst d nP (setA nS p) c r).2) (nI (wP d nP nS p left)) (nI (d 2 c)) (nI j) st := rfl
    rw [e]
    unfold b_Pl_tryRuns_56
    rw [if_neg (ge16 (by omega))]
    have hEx : ∀ a, Ext9 nS p left (4 * c + r) a → SubS (setA nS a (4 * c + r)) left := fun a ha s hs hb => by
      obtain ⟨h1, h2⟩ := (setA_bit hn _ _).mp hb
      cases hl : left.testBit s
      · have h3 := (ha s h1).1 hl
        have h4 := (hN.2.2.2.1 s h1 hl).1
        omega
      · rfl
    by_cases hsub : SubS j left
    · rw [if_pos ((sub_iff (by omega) hl16).mpr hsub)]
      have hj2 : j < 2 ^ nS := by
        apply Nat.lt_pow_two_of_testBit
        intro s hs
        cases hb : j.testBit s
        · rfl
        · have h4 := bit_lt (nS := 4) (by omega) hb
          have := bit_lt hN.1 (hsub s h4 hb)
          omega
      obtain ⟨pl, hC, hK, hBor⟩ := id hB
      obtain ⟨x, st1, hx, hans, hkb, hK1⟩ := canRun_eq hA hc hj2 (by omega) hC hK
      have hB1 := hB.keep hkb.1 (fun k hk => hkb.2 k (by omega) (by omega) (by omega)) hK1
      have hF1 : Fr left st st1 := ⟨fun k hk => hkb.2 k (by omega) (by omega) (by omega), fun s _ _ => by rw [hkb.2 14 (by decide) (by decide) (by decide), hkb.2 15 (by decide) (by decide) (by decide), hkb.2 16 (by decide) (by decide) (by decide)]; exact ⟨rfl, rfl, rfl⟩⟩
      have hT1 := hT.fr hn hF1
      rw [hx, Option.bind_some]
      dsimp only
      rcases hans with ⟨rfl, hw, hfit⟩ | ⟨rfl, hno⟩
      · rw [if_neg one_ne]
        obtain ⟨y, hy, hyor⟩ := cd_eq hA hj2 (hkb.RC hC)
        have hyd : y = nI (dirN d j) := by
          rcases hyor with ⟨-, -, h⟩ | ⟨h, -⟩
          · exact h
          · exact absurd ⟨by omega, hw⟩ h
        subst hyd
        rw [hy, Option.bind_some]
        dsimp only
        obtain ⟨st2, hP, hstep⟩ := step_eq (left := left) (r := r) hA hj2 (by omega) hl16 hc (hkb.RC hC) (fl := cst d nP (setA nS p) c r) (by omega) hcb.2 (w := wP d nP nS p left) REC (f_Pl_tryRuns_56 REC (n + m + 1))
        · rw [hstep]
          have hNc := ch_node hA hN (by omega) (by omega) hsub hc hr hw hfit
          have hTc := ch_tr hA hN (by omega) (by omega) hsub hc hr hT1 hP
          have hB2 := hB1.keep hP.1 (fun k hk => hP.2.1 k (by omega) (by omega) (by omega)) (Cache_of hK1 (hP.2.1 13 (by decide) (by decide) (by decide)))
          have hpc := lm_pc hl16 (by omega) (show j ≠ 0 by omega) hsub
          obtain ⟨st3, h1, h2, h3⟩ := hREC _ _ c (r + 1) st2 _ hNc hTc (by omega) hB2
          rw [(ch_beg hA hN (by omega) (by omega) hsub hc hr).1, ch_wait hA hN (by omega) (by omega) hsub hc hr] at h1
          rw [h1, Option.bind_some]
          have hF2 : Fr left st1 st2 := ⟨fun k hk => hP.2.1 k (by omega) (by omega) (by omega), fun s hs hl => (hP.2.2 s hs).2 (Or.inl (sub_f hs hsub hl))⟩
          have hlm : ∀ s, s < 4 → left.testBit s = false → (lm left j).testBit s = false := fun s hs hl => by rw [lm_bit hs, hl]; rfl
          have hF3 : Fr left st st3 := (hF1.tr hF2 (fun _ _ h => h) (fun _ _ h => h)).tr h2 (fun _ _ h => h) hlm
          obtain ⟨st', q1, q2, q3⟩ := ih (j + 1) (by omega) (by omega) st3 (hT.fr hn hF3) (h3.mono (fun a hV ha => by
            rcases ha with ha | ⟨ha, ha2, ha3⟩
            · exact Or.inl (Or.inl ha)
            · rcases Nat.eq_or_lt_of_le (Nat.le_of_lt_succ ha3) with he | hlt
              · refine Or.inr (fun s hs => ⟨fun hl => ?_, fun hl => ?_⟩)
                · rcases lm_f (by omega) hl with h | h
                  · rw [chP_f (sub_f (by omega) hsub h)]
                    exact (ha s hs).1 h
                  · rw [chP_t h]
                    rw [← he] at h
                    exact ((setA_bit hn _ _).mp h).2
                · obtain ⟨g1, g2⟩ := lm_t (by omega) hl
                  have g3 := (ha s hs).2 g1
                  rw [← he] at g2
                  have g4 : a s ≠ 4 * c + r := fun h => by
                    rw [(setA_bit hn _ _).mpr ⟨hs, h⟩] at g2
                    cases g2
                  omega
              · exact Or.inl (Or.inr ⟨ha, ha2, hlt⟩))) n
          exact ⟨st', q1, hF3.tr q2 (fun _ _ h => h) (fun _ _ h => h), q3⟩
      · rw [if_pos rfl]
        unfold f_Pl_tryRuns_186
        rw [nI_1]
        obtain ⟨st', q1, q2, q3⟩ := ih (j + 1) (by omega) (by omega) st1 hT1 (hB1.mono (fun a hV ha => by
          rcases ha with ha | ⟨ha, ha2, ha3⟩
          · exact Or.inl ha
          · refine Or.inr ⟨ha, ha2, ?_⟩
            rcases Nat.eq_or_lt_of_le (Nat.le_of_lt_succ ha3) with he | hlt
            · exfalso
              have h9 := hV.2.1 (4 * c + r) (by omega) ha2
              rw [he, show (4 * c + r) / 4 = c by omega] at h9
              exact hno h9
            · exact hlt)) n
        exact ⟨st', q1, hF1.tr q2 (fun _ _ h => h) (fun _ _ h => h), q3⟩
    · rw [if_neg (fun h => hsub ((sub_iff (by omega) hl16).mp h))]
      unfold f_Pl_tryRuns_186
      rw [nI_1]
      obtain ⟨st', q1, q2, q3⟩ := ih (j + 1) (by omega) (by omega) st hT (hB.mono (fun a hV ha => by
        rcases ha with ha | ⟨ha, ha2, ha3⟩
        · exact Or.inl ha
        · refine Or.inr ⟨ha, ha2, ?_⟩
          rcases Nat.eq_or_lt_of_le (Nat.le_of_lt_succ ha3) with he | hlt
          · exfalso
            have h9 := hEx a ha
            rw [he] at h9
            exact hsub h9
          · exact hlt)) n
      exact ⟨st', q1, q2, q3⟩
theorem body_eq (hA : AbOk nC nS nP g o d) {f : Nat} {REC : Int32 → Int32 → Int32 → Int32 → Int32 → Int32 → St → Option St} (hREC : TrySpec nC nS nP g o d f REC) {X : (Nat → Nat) → Prop} (hN : NodeP nC nS g d p left c r) {st : St} (hT : TrP d nP nS p left st) (hf : pc left + (nC - c) < f + 1) (hB : Bst nC nS nP g o d X st) : ∃ st', f_Pl_tryRuns_20 REC (nI c) (nI r) (nI left) (nI (cst d nP (setA nS p) c r).1) (nI (cst d nP (setA nS p) c r).2) (nI (wP d nP nS p left)) st = some st' ∧ Fr left st st' ∧ Bst nC nS nP g o d (fun a => X a ∨ Ext9 nS p left (4 * c + r) a) st' := by
  have hn := hA.2.1
  have hC2 := hA.1
  have h16 := pw_le hn
  have hl16 : left < 16 := by have := hN.1; omega
  obtain ⟨pl, hC, hK, -⟩ := id hB
  unfold f_Pl_tryRuns_20
  by_cases hl0 : left = 0
  · subst hl0
    have hz : ∀ s, Nat.testBit 0 s = false := fun s => Nat.zero_testBit s
    obtain ⟨n1, n2, n3, n4, n5, n6, n7, n8⟩ := hN
    have hw : wP d nP nS p 0 = wA d nP nS p := by
      unfold wP wA
      congr 1
      funext s
      rw [hz s]
      simp
    obtain ⟨st', h1, h2, h3⟩ := offer_eq hA hB (fun s hs => (n4 s hs (hz s)).2) n6 (fun s hs k hk => by
      obtain ⟨t, t1, -, t3⟩ := n7 s hs (hz s) k hk
      exact ⟨t, t1, t3⟩) (fun s hs => hT s hs (hz s))
    refine ⟨st', ?_, h2, h3.mono (fun a _ ha => ?_)⟩
    · rw [if_pos (show nI 0 = 0 from rfl), hw, h1, Option.bind_some]
    · rcases ha with ha | ha
      · exact Or.inl ha
      · exact Or.inr (fun s hs => (ha s hs).1 (hz s))
  · rw [if_neg (show ¬ nI left = 0 from fun h => hl0 ((nI_eq (b := 0) (by omega) (by omega)).mp h))]
    by_cases hc : c < nC
    · rw [hC.hasC hA hc, Option.bind_some]
      dsimp only
      rw [if_neg one_ne, (ch_get hA hC hc).2.2, Option.bind_some]
      dsimp only
      exact loop_eq hA hREC hN hc hl0 hf 15 1 rfl (Nat.le_refl _) st hT (hB.mono (fun a _ ha => by
        rcases ha with ha | ⟨-, h1, h2⟩
        · exact ha
        · omega)) 24
    · have hh : f_Ch_has (nI c) st = some (0, st) := by
        rw [ch_has_eq hC.1 hA.1, if_neg]
        intro h
        have := (nI_ltI (by have := hN.2.2.1; omega) (by omega)).mp h.2
        exact hc this
      rw [hh, Option.bind_some]
      dsimp only
      rw [if_pos rfl]
      refine ⟨st, rfl, Fr.rf, hB.mono (fun a hV ha => ?_)⟩
      rcases ha with ha | ha
      · exact ha
      · exfalso
        obtain ⟨s, hs⟩ := set_ne0 hl0
        have hsn := bit_lt hN.1 hs
        have h1 := (ha s hsn).2 hs
        have h2 := hV.1 s hsn
        omega
theorem try_eq (hA : AbOk nC nS nP g o d) : ∀ f, TrySpec nC nS nP g o d f (f_Pl_tryRuns f) := by
  have hn := hA.2.1
  have h16 := pw_le hn
  intro f
  induction f with
  | zero => intro p left c r st X _ _ h; omega
  | succ f ih =>
    intro p left c r st X hN hT hf hB
    obtain ⟨st', h1, h2, h3⟩ := body_eq hA ih hN hT hf hB
    obtain ⟨pl, hC, hK, hor⟩ := id hB
    have hwb : wP d nP nS p left ≤ 80000 := wS_bd (fun s _ h => by
      have h9 : s < nS ∧ left.testBit s = false := by
        simp at h
        exact h
      have := (bA_bd hA h9.1 (hN.2.2.2.1 s h9.1 h9.2).2).2
      omega)
    show ∃ st', fb_Pl_tryRuns (f_Pl_tryRuns f) _ _ _ _ _ _ st = some st' ∧ _
    unfold fb_Pl_tryRuns f_Tt_waiting_bs
    rw [hC.2.2.2.2.2.1]
    rcases hor with ⟨h3', h4⟩ | ⟨h3', a, h4, h5, h6, h7⟩
    · subst h3'
      rw [if_pos (show nI 0 = 0 from rfl)]
      exact ⟨st', h1, h2, h3⟩
    · subst h3'
      rw [if_neg (show ¬ nI 1 = 0 from one_ne), Option.bind_some]
      dsimp only
      have hwa := wA_bd hA h4.1
      rw [h6]
      by_cases hle : wP d nP nS p left ≤ wA d nP nS a
      · rw [if_pos (nI_le hle (by omega))]
        exact ⟨st', h1, h2, h3⟩
      · rw [if_neg (fun h => hle ((nI_leI (by omega) (by omega)).mp h))]
        refine ⟨st, rfl, Fr.rf, 1, hC, hK, Or.inr ⟨rfl, a, h4, h5, h6, fun a' ha' hV' => ?_⟩⟩
        rcases ha' with ha' | ha'
        · exact h7 a' ha' hV'
        · have hg := w_grow hA hN ha'
          exact Nat.le_of_lt (kF_lt (eA_bd hA h4.1) (eA_bd hA hV'.1) nS 0 _ _ (by omega) (by omega))
/-- the class's search -/
theorem searchC_eq (hA : AbOk nC nS nP g o d) {pl : Nat} {st : St} (hC : RC nC nS nP g o d pl st) (hK : Cache nC nS d st) : ∃ pl' st', f_Pl_search st = some (nI pl', st') ∧ RC nC nS nP g o d pl' st' ∧ Cache nC nS d st' ∧ (∀ k, 20 ≤ k → st'.2 k = st.2 k) ∧ ((pl' = 0 ∧ ∀ a, ¬ Vld nC nS nP g o d a) ∨ (pl' = 1 ∧ ∃ a, Vld nC nS nP g o d a ∧ TabB d nP nS a st' ∧ st'.1 5 = nI (wA d nP nS a) ∧ ∀ a', Vld nC nS nP g o d a' → kA d nP nS a ≤ kA d nP nS a')) := by
  have hn := hA.2.1
  have hC2 := hA.1
  have h16 := pw_le hn
  have hpos : 1 ≤ 2 ^ nS := Nat.one_le_two_pow
  have hC0 : RC nC nS nP g o d 0 (sI st 7 0) := RC_of hC (fun k hk => by rw [sI_at, if_neg (by omega)]) (by rw [sI_at, if_pos rfl]; rfl) (fun k _ => rfl)
  have hK0 : Cache nC nS d (sI st 7 0) := Cache_of hK rfl
  have hbt : ∀ s, s < nS → (2 ^ nS - 1).testBit s = true := fun s hs => by rw [all_bit]; exact decide_eq_true hs
  have hB : Bst nC nS nP g o d (fun _ => False) (sI st 7 0) := ⟨0, hC0, hK0, Or.inl ⟨rfl, fun _ h => h.elim⟩⟩
  have hno : ∀ s, s < nS → (2 ^ nS - 1).testBit s = false → False := fun s hs h => by rw [hbt s hs] at h; cases h
  have hpc := pc_le (l := 2 ^ nS - 1) (by omega)
  have hN : NodeP nC nS g d (fun _ => 999) (2 ^ nS - 1) 0 0 := ⟨by omega, by omega, Nat.zero_le _, fun s hs h => (hno s hs h).elim, fun _ _ _ => rfl, fun q hq hne => by
      obtain ⟨s, -, he⟩ := (setA_ne hn q).mp hne
      have he' : 999 = q := he
      omega, fun s hs h => (hno s hs h).elim, fun k hk => by omega⟩
  have hT : TrP d nP nS (fun _ => 999) (2 ^ nS - 1) (sI st 7 0) := fun s hs h => (hno s hs h).elim
  obtain ⟨st', h1, h2, pl', h3, h4, h5⟩ := try_eq hA 8 _ _ 0 0 _ _ hN hT (by omega) hB
  have hw : wP d nP nS (fun _ => 999) (2 ^ nS - 1) = 0 := by
    have : ∀ s, s < 4 → (if (decide (s < nS) && !(2 ^ nS - 1).testBit s) = true then bA d nP nS (fun _ => 999) s - d 8 s else 0) = 0 := fun s _ => by
      rw [all_bit]
      cases decide (s < nS) <;> rfl
    have a0 := this 0 (by decide)
    have a1 := this 1 (by decide)
    have a2 := this 2 (by decide)
    have a3 := this 3 (by decide)
    unfold wP
    rw [wS_eq]
    omega
  rw [hw] at h1
  have h1' : f_Pl_tryRuns 8 0 0 (nI (2 ^ nS - 1)) 0 0 0 (sI st 7 0) = some st' := h1
  have hpl : pl' ≤ 1 := by
    rcases h5 with h5 | h5
    · omega
    · omega
  refine ⟨pl', st', ?_, h3, h4, h2.1, ?_⟩
  · unfold f_Pl_search
    rw [xl, all_eq hA hC0, Option.bind_some]
    dsimp only
    rw [h1', Option.bind_some, h3.2.2.2.2.2.1, if_pos]
    rcases (show pl' = 0 ∨ pl' = 1 by omega) with h | h
    · rw [h]; exact Or.inl rfl
    · rw [h]; exact Or.inr rfl
  · have hX : ∀ a, False ∨ Ext9 nS (fun _ => 999) (2 ^ nS - 1) (4 * 0 + 0) a := fun a => Or.inr (fun s hs => ⟨fun h => (hno s hs h).elim, fun _ => Nat.zero_le _⟩)
    rcases h5 with ⟨h6, h7⟩ | ⟨h6, a, h7, h8, h9, h10⟩
    · exact Or.inl ⟨h6, fun a hV => h7 a (hX a) hV⟩
    · exact Or.inr ⟨h6, a, h7, h8, h9, fun a' hV => h10 a' (hX a') hV⟩
end SE
