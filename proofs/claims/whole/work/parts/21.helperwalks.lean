set_option maxHeartbeats 4000000 in
set_option maxRecDepth 20000 in
theorem c_Lw_chamber {l : Launch} {D : va_G} {ad : Nat → Nat} {ao : Nat} {cI cZ cJ : ClassId} {s0 : State} (N : (LH ad ao).Nodup) (hlt : l.stackTraces = false) (hL0 : ∀ q ∈ LH ad ao, s0.heap.size ≤ q) {x1 x2 x3 : Int32} {u : SH} {out : Int32 × SH} (hf : f_Lw_chamber x1 x2 x3 u = some out) : xMh s0 l y_Lw_chamber b_Lw_chamber 6 (some .int) [(0, 12, 15, 13), (0, 12, 19, 15)] rm_Lw_chamber D (tyL cI cZ cJ) (WH ad ao cI cJ) (LH ad ao) [.ref (ad 0), .int x1, .int x2, .int x3, .ref ao] u out := by
  intro sz
  refine xMh_of (L := LH ad ao) (by decide) (Nat.le_of_ble_eq_true rfl) (fun p e s m below meth c hsz hr htab Z C => ?_)
  have hA0 : ∀ q, xA (LH ad ao) sz q → s0.heap.size ≤ q := fun q h => h.elim (hL0 q) (fun h => Nat.le_trans (xS_le Z) (by rw [hsz]; exact h))
  unfold f_Lw_chamber at hf
  obtain ⟨o, ho, hf⟩ := xb_some hf
  show j_h p l e rm_Lw_chamber s m _ below meth c 0 0 sz D ad ao cI cJ out 6 (WC ad cI u.1 ++ [(ao, .inl (cJ, 1, .inr (.inl u.2)))]) [(0, .ref (ad 0)), (1, .int x1), (2, .int x2), (3, .int x3), (4, .ref ao)] 0 []
  refine xj_aload C d_Lw_chamber_0 4 rfl ?_
  refine xj_iconst (v := 0) C d_Lw_chamber_2 rfl ?_
  refine xj_aload_n C d_Lw_chamber_3 rfl 0 rfl ?_
  refine xj_iload_n C d_Lw_chamber_4 rfl 1 rfl ?_
  refine xj_iload_n C d_Lw_chamber_5 rfl 2 rfl ?_
  refine xj_iload_n C d_Lw_chamber_6 rfl 3 rfl ?_
  refine xj_callX (rest := [.int 0, .ref ao]) (wf := WC ad cI) (L := LC ad) (wr := [(ao, .inl (cJ, 1, .inr (.inl u.2)))]) C Z hA0 htab (c_LR_chamber (LH_C N).1 hlt (fun q h => hL0 q (List.mem_append_left _ h)) ho) ⟨[0], rfl⟩ Y_LR_chamber i_Lw_7 0 rfl rfl (by decide) ⟨rfl, rfl⟩ rfl rfl (Nat.le_of_ble_eq_true rfl) d_Lw_chamber_7 (by decide) (by decide) (fun q h => Or.inl (List.mem_append_left _ h)) (fun a h => by rw [List.mem_singleton.mp h]; exact (LH_C N).2) (fun h0 => ?_) (fun k hk => ?_)
  · have hf := xi_pos h0 hf
    refine xj_i2l (v := o.1.2.toInt64) C d_Lw_chamber_10 rfl ?_
    refine xj_last (ws' := WH ad ao cI cJ (o.2, vp_updL u.2 0 o.1.2.toInt64)) C (WH_D N sz (o.2, u.2)) 31 2 rfl rfl (show xin 0 1 by decide) d_Lw_chamber_11 rfl ?_
    refine xj_goto (tgt := 23) C d_Lw_chamber_12 (by decide) ?_
    refine xj_iconst (v := 0) C d_Lw_chamber_23 rfl ?_
    exact xj_iret (wf := WH ad ao cI cJ) (st := (o.2, vp_updL u.2 0 o.1.2.toInt64)) C hr hf d_Lw_chamber_24
  · have hf := xi_neg (by rw [hk]; omega) hf
    by_cases e0 : o.1.1 = 1
    · have hf := xi_pos e0 hf
      obtain rfl : k = 0 := by omega
      refine ⟨[], (0, 12, 15, 13), [(0, 12, 19, 15)], rfl, (fun z hz => absurd hz List.not_mem_nil), by decide, BIG_at 386 (by decide +kernel) (by decide +kernel), fun qa => ?_⟩
      refine xj_astore C d_Lw_chamber_15 (by decide) rfl ?_
      refine xj_iconst (v := 1) C d_Lw_chamber_17 rfl ?_
      exact xj_iret (wf := WH ad ao cI cJ) (st := (o.2, u.2)) C hr hf d_Lw_chamber_18
    have hf := xi_neg e0 hf
    by_cases e1 : o.1.1 = 2
    · have hf := xi_pos e1 hf
      obtain rfl : k = 1 := by omega
      refine ⟨[(0, 12, 15, 13)], (0, 12, 19, 15), [], rfl, (fun z hz => by cases List.mem_singleton.mp hz; exact ⟨by decide, 0, by decide, BIG_at 386 (by decide +kernel) (by decide +kernel)⟩), by decide, BIG_at 387 (by decide +kernel) (by decide +kernel), fun qa => ?_⟩
      refine xj_astore C d_Lw_chamber_19 (by decide) rfl ?_
      refine xj_iconst (v := 2) C d_Lw_chamber_21 rfl ?_
      exact xj_iret (wf := WH ad ao cI cJ) (st := (o.2, u.2)) C hr hf d_Lw_chamber_22
    have hf := xi_neg e1 hf
    cases hf
set_option maxHeartbeats 4000000 in
set_option maxRecDepth 20000 in
theorem c_Lw_ship {l : Launch} {D : va_G} {ad : Nat → Nat} {ao : Nat} {cI cZ cJ : ClassId} {s0 : State} (N : (LH ad ao).Nodup) (hlt : l.stackTraces = false) (hL0 : ∀ q ∈ LH ad ao, s0.heap.size ≤ q) {x1 x2 x3 x4 x5 : Int32} {u : SH} {out : Int32 × SH} (hf : f_Lw_ship x1 x2 x3 x4 x5 u = some out) : xMh s0 l y_Lw_ship b_Lw_ship 8 (some .int) [(0, 16, 19, 13), (0, 16, 23, 15)] rm_Lw_ship D (tyL cI cZ cJ) (WH ad ao cI cJ) (LH ad ao) [.ref (ad 0), .int x1, .int x2, .int x3, .int x4, .int x5, .ref ao] u out := by
  intro sz
  refine xMh_of (L := LH ad ao) (by decide) (Nat.le_of_ble_eq_true rfl) (fun p e s m below meth c hsz hr htab Z C => ?_)
  have hA0 : ∀ q, xA (LH ad ao) sz q → s0.heap.size ≤ q := fun q h => h.elim (hL0 q) (fun h => Nat.le_trans (xS_le Z) (by rw [hsz]; exact h))
  unfold f_Lw_ship at hf
  obtain ⟨o, ho, hf⟩ := xb_some hf
  show j_h p l e rm_Lw_ship s m _ below meth c 0 0 sz D ad ao cI cJ out 8 (WC ad cI u.1 ++ [(ao, .inl (cJ, 1, .inr (.inl u.2)))]) [(0, .ref (ad 0)), (1, .int x1), (2, .int x2), (3, .int x3), (4, .int x4), (5, .int x5), (6, .ref ao)] 0 []
  refine xj_aload C d_Lw_ship_0 6 rfl ?_
  refine xj_iconst (v := 0) C d_Lw_ship_2 rfl ?_
  refine xj_aload_n C d_Lw_ship_3 rfl 0 rfl ?_
  refine xj_iload_n C d_Lw_ship_4 rfl 1 rfl ?_
  refine xj_iload_n C d_Lw_ship_5 rfl 2 rfl ?_
  refine xj_iload_n C d_Lw_ship_6 rfl 3 rfl ?_
  refine xj_iload C d_Lw_ship_7 4 rfl ?_
  refine xj_iload C d_Lw_ship_9 5 rfl ?_
  refine xj_callX (rest := [.int 0, .ref ao]) (wf := WC ad cI) (L := LC ad) (wr := [(ao, .inl (cJ, 1, .inr (.inl u.2)))]) C Z hA0 htab (c_LR_ship (LH_C N).1 hlt (fun q h => hL0 q (List.mem_append_left _ h)) ho) ⟨[0], rfl⟩ Y_LR_ship i_Lw_17 0 rfl rfl (by decide) ⟨rfl, rfl⟩ rfl rfl (Nat.le_of_ble_eq_true rfl) d_Lw_ship_11 (by decide) (by decide) (fun q h => Or.inl (List.mem_append_left _ h)) (fun a h => by rw [List.mem_singleton.mp h]; exact (LH_C N).2) (fun h0 => ?_) (fun k hk => ?_)
  · have hf := xi_pos h0 hf
    refine xj_i2l (v := o.1.2.toInt64) C d_Lw_ship_14 rfl ?_
    refine xj_last (ws' := WH ad ao cI cJ (o.2, vp_updL u.2 0 o.1.2.toInt64)) C (WH_D N sz (o.2, u.2)) 31 2 rfl rfl (show xin 0 1 by decide) d_Lw_ship_15 rfl ?_
    refine xj_goto (tgt := 27) C d_Lw_ship_16 (by decide) ?_
    refine xj_iconst (v := 0) C d_Lw_ship_27 rfl ?_
    exact xj_iret (wf := WH ad ao cI cJ) (st := (o.2, vp_updL u.2 0 o.1.2.toInt64)) C hr hf d_Lw_ship_28
  · have hf := xi_neg (by rw [hk]; omega) hf
    by_cases e0 : o.1.1 = 1
    · have hf := xi_pos e0 hf
      obtain rfl : k = 0 := by omega
      refine ⟨[], (0, 16, 19, 13), [(0, 16, 23, 15)], rfl, (fun z hz => absurd hz List.not_mem_nil), by decide, BIG_at 386 (by decide +kernel) (by decide +kernel), fun qa => ?_⟩
      refine xj_astore C d_Lw_ship_19 (by decide) rfl ?_
      refine xj_iconst (v := 1) C d_Lw_ship_21 rfl ?_
      exact xj_iret (wf := WH ad ao cI cJ) (st := (o.2, u.2)) C hr hf d_Lw_ship_22
    have hf := xi_neg e0 hf
    by_cases e1 : o.1.1 = 2
    · have hf := xi_pos e1 hf
      obtain rfl : k = 1 := by omega
      refine ⟨[(0, 16, 19, 13)], (0, 16, 23, 15), [], rfl, (fun z hz => by cases List.mem_singleton.mp hz; exact ⟨by decide, 0, by decide, BIG_at 386 (by decide +kernel) (by decide +kernel)⟩), by decide, BIG_at 387 (by decide +kernel) (by decide +kernel), fun qa => ?_⟩
      refine xj_astore C d_Lw_ship_23 (by decide) rfl ?_
      refine xj_iconst (v := 2) C d_Lw_ship_25 rfl ?_
      exact xj_iret (wf := WH ad ao cI cJ) (st := (o.2, u.2)) C hr hf d_Lw_ship_26
    have hf := xi_neg e1 hf
    cases hf
set_option maxHeartbeats 4000000 in
set_option maxRecDepth 20000 in
theorem c_Lw_fits {l : Launch} {D : va_G} {ad : Nat → Nat} {ao : Nat} {cI cZ cJ : ClassId} {s0 : State} (N : (LH ad ao).Nodup) (hlt : l.stackTraces = false) (hL0 : ∀ q ∈ LH ad ao, s0.heap.size ≤ q) {x1 x2 : Int32} {u : SH} {out : Int32 × SH} (hf : f_Lw_fits x1 x2 u = some out) : xMh s0 l y_Lw_fits b_Lw_fits 5 (some .int) [(0, 17, 20, 13)] rm_Lw_fits D (tyL cI cZ cJ) (WH ad ao cI cJ) (LH ad ao) [.ref (ad 0), .int x1, .int x2, .ref ao] u out := by
  intro sz
  refine xMh_of (L := LH ad ao) (by decide) (Nat.le_of_ble_eq_true rfl) (fun p e s m below meth c hsz hr htab Z C => ?_)
  have hA0 : ∀ q, xA (LH ad ao) sz q → s0.heap.size ≤ q := fun q h => h.elim (hL0 q) (fun h => Nat.le_trans (xS_le Z) (by rw [hsz]; exact h))
  unfold f_Lw_fits at hf
  obtain ⟨o, ho, hf⟩ := xb_some hf
  show j_h p l e rm_Lw_fits s m _ below meth c 0 0 sz D ad ao cI cJ out 5 (WC ad cI u.1 ++ [(ao, .inl (cJ, 1, .inr (.inl u.2)))]) [(0, .ref (ad 0)), (1, .int x1), (2, .int x2), (3, .ref ao)] 0 []
  refine xj_aload_n C d_Lw_fits_0 rfl 3 rfl ?_
  refine xj_iconst (v := 0) C d_Lw_fits_1 rfl ?_
  refine xj_aload_n C d_Lw_fits_2 rfl 0 rfl ?_
  refine xj_iload_n C d_Lw_fits_3 rfl 1 rfl ?_
  refine xj_iload_n C d_Lw_fits_4 rfl 2 rfl ?_
  refine xj_callX (rest := [.int 0, .ref ao]) (wf := WC ad cI) (L := LC ad) (wr := [(ao, .inl (cJ, 1, .inr (.inl u.2)))]) C Z hA0 htab (c_LR_fits (LH_C N).1 hlt (fun q h => hL0 q (List.mem_append_left _ h)) ho) ⟨[0], rfl⟩ Y_LR_fits i_Lw_21 0 rfl rfl (by decide) ⟨rfl, rfl⟩ rfl rfl (Nat.le_of_ble_eq_true rfl) d_Lw_fits_5 (by decide) (by decide) (fun q h => Or.inl (List.mem_append_left _ h)) (fun a h => by rw [List.mem_singleton.mp h]; exact (LH_C N).2) (fun h0 => ?_) (fun k hk => ?_)
  · have hf := xi_pos h0 hf
    refine xj_if_eq (tgt := 15) C d_Lw_fits_8 (by decide) (fun h9 => ?_) (fun h9 => ?_)
    · have hf := xi_pos h9 hf
      refine xj_lconst (v := 0) C d_Lw_fits_15 rfl ?_
      refine xj_last (ws' := WH ad ao cI cJ (o.2, vp_updL u.2 0 0)) C (WH_D N sz (o.2, u.2)) 31 2 rfl rfl (show xin 0 1 by decide) d_Lw_fits_16 rfl ?_
      refine xj_goto (tgt := 24) C d_Lw_fits_17 (by decide) ?_
      refine xj_iconst (v := 0) C d_Lw_fits_24 rfl ?_
      exact xj_iret (wf := WH ad ao cI cJ) (st := (o.2, vp_updL u.2 0 0)) C hr hf d_Lw_fits_25
    · have hf := xi_neg h9 hf
      refine xj_lconst (v := 1) C d_Lw_fits_11 rfl ?_
      refine xj_goto (tgt := 16) C d_Lw_fits_12 (by decide) ?_
      refine xj_last (ws' := WH ad ao cI cJ (o.2, vp_updL u.2 0 1)) C (WH_D N sz (o.2, u.2)) 31 2 rfl rfl (show xin 0 1 by decide) d_Lw_fits_16 rfl ?_
      refine xj_goto (tgt := 24) C d_Lw_fits_17 (by decide) ?_
      refine xj_iconst (v := 0) C d_Lw_fits_24 rfl ?_
      exact xj_iret (wf := WH ad ao cI cJ) (st := (o.2, vp_updL u.2 0 1)) C hr hf d_Lw_fits_25
  · have hf := xi_neg (by rw [hk]; omega) hf
    by_cases e0 : o.1.1 = 1
    · have hf := xi_pos e0 hf
      obtain rfl : k = 0 := by omega
      refine ⟨[], (0, 17, 20, 13), [], rfl, (fun z hz => absurd hz List.not_mem_nil), by decide, BIG_at 386 (by decide +kernel) (by decide +kernel), fun qa => ?_⟩
      refine xj_astore C d_Lw_fits_20 (by decide) rfl ?_
      refine xj_iconst (v := 1) C d_Lw_fits_22 rfl ?_
      exact xj_iret (wf := WH ad ao cI cJ) (st := (o.2, u.2)) C hr hf d_Lw_fits_23
    have hf := xi_neg e0 hf
    cases hf
set_option maxHeartbeats 4000000 in
set_option maxRecDepth 20000 in
theorem c_Lw_of {l : Launch} {D : va_G} {ad : Nat → Nat} {ao : Nat} {cI cZ cJ : ClassId} {s0 : State} (N : (LH ad ao).Nodup) (hlt : l.stackTraces = false) (hL0 : ∀ q ∈ LH ad ao, s0.heap.size ≤ q) {x1 x2 : Int32} {u : SH} {out : Int32 × SH} (hf : f_Lw_of x1 x2 u = some out) : xMh s0 l y_Lw_of b_Lw_of 5 (some .int) [(0, 10, 13, 29), (0, 10, 17, 15)] rm_Lw_of D (tyL cI cZ cJ) (WH ad ao cI cJ) (LH ad ao) [.ref (ad 0), .int x1, .int x2, .ref ao] u out := by
  intro sz
  refine xMh_of (L := LH ad ao) (by decide) (Nat.le_of_ble_eq_true rfl) (fun p e s m below meth c hsz hr htab Z C => ?_)
  have hA0 : ∀ q, xA (LH ad ao) sz q → s0.heap.size ≤ q := fun q h => h.elim (hL0 q) (fun h => Nat.le_trans (xS_le Z) (by rw [hsz]; exact h))
  unfold f_Lw_of at hf
  obtain ⟨o, ho, hf⟩ := xb_some hf
  show j_h p l e rm_Lw_of s m _ below meth c 0 0 sz D ad ao cI cJ out 5 (WC ad cI u.1 ++ [(ao, .inl (cJ, 1, .inr (.inl u.2)))]) [(0, .ref (ad 0)), (1, .int x1), (2, .int x2), (3, .ref ao)] 0 []
  refine xj_aload_n C d_Lw_of_0 rfl 3 rfl ?_
  refine xj_iconst (v := 0) C d_Lw_of_1 rfl ?_
  refine xj_aload_n C d_Lw_of_2 rfl 0 rfl ?_
  refine xj_iload_n C d_Lw_of_3 rfl 1 rfl ?_
  refine xj_iload_n C d_Lw_of_4 rfl 2 rfl ?_
  refine xj_callX (rest := [.int 0, .ref ao]) (wf := WC ad cI) (L := LC ad) (wr := [(ao, .inl (cJ, 1, .inr (.inl u.2)))]) C Z hA0 htab (c_LR_of (LH_C N).1 hlt (fun q h => hL0 q (List.mem_append_left _ h)) ho) ⟨[0], rfl⟩ Y_LR_of i_Lw_25 0 rfl rfl (by decide) ⟨rfl, rfl⟩ rfl rfl (Nat.le_of_ble_eq_true rfl) d_Lw_of_5 (by decide) (by decide) (fun q h => Or.inl (List.mem_append_left _ h)) (fun a h => by rw [List.mem_singleton.mp h]; exact (LH_C N).2) (fun h0 => ?_) (fun k hk => ?_)
  · have hf := xi_pos h0 hf
    refine xj_i2l (v := o.1.2.toInt64) C d_Lw_of_8 rfl ?_
    refine xj_last (ws' := WH ad ao cI cJ (o.2, vp_updL u.2 0 o.1.2.toInt64)) C (WH_D N sz (o.2, u.2)) 31 2 rfl rfl (show xin 0 1 by decide) d_Lw_of_9 rfl ?_
    refine xj_goto (tgt := 21) C d_Lw_of_10 (by decide) ?_
    refine xj_iconst (v := 0) C d_Lw_of_21 rfl ?_
    exact xj_iret (wf := WH ad ao cI cJ) (st := (o.2, vp_updL u.2 0 o.1.2.toInt64)) C hr hf d_Lw_of_22
  · have hf := xi_neg (by rw [hk]; omega) hf
    by_cases e0 : o.1.1 = 3
    · have hf := xi_pos e0 hf
      obtain rfl : k = 2 := by omega
      refine ⟨[], (0, 10, 13, 29), [(0, 10, 17, 15)], rfl, (fun z hz => absurd hz List.not_mem_nil), by decide, BIG_at 511 (by decide +kernel) (by decide +kernel), fun qa => ?_⟩
      refine xj_astore C d_Lw_of_13 (by decide) rfl ?_
      refine xj_iconst (v := 1) C d_Lw_of_15 rfl ?_
      exact xj_iret (wf := WH ad ao cI cJ) (st := (o.2, u.2)) C hr hf d_Lw_of_16
    have hf := xi_neg e0 hf
    by_cases e1 : o.1.1 = 2
    · have hf := xi_pos e1 hf
      obtain rfl : k = 1 := by omega
      refine ⟨[(0, 10, 13, 29)], (0, 10, 17, 15), [], rfl, (fun z hz => by cases List.mem_singleton.mp hz; exact ⟨by decide, 2, by decide, BIG_at 511 (by decide +kernel) (by decide +kernel)⟩), by decide, BIG_at 387 (by decide +kernel) (by decide +kernel), fun qa => ?_⟩
      refine xj_astore C d_Lw_of_17 (by decide) rfl ?_
      refine xj_iconst (v := 2) C d_Lw_of_19 rfl ?_
      exact xj_iret (wf := WH ad ao cI cJ) (st := (o.2, u.2)) C hr hf d_Lw_of_20
    have hf := xi_neg e1 hf
    cases hf
set_option maxHeartbeats 4000000 in
set_option maxRecDepth 20000 in
theorem c_Lw_run {l : Launch} {D : va_G} {ad : Nat → Nat} {ao : Nat} {cI cZ cJ : ClassId} {s0 : State} (N : (LH ad ao).Nodup) (hlt : l.stackTraces = false) (hL0 : ∀ q ∈ LH ad ao, s0.heap.size ≤ q) {x1 x2 x3 : Int32} {u : SH} {out : Int32 × SH} (hf : f_Lw_run x1 x2 x3 u = some out) : xMh s0 l y_Lw_run b_Lw_run 6 (some .int) [(0, 12, 15, 29), (0, 12, 19, 15)] rm_Lw_run D (tyL cI cZ cJ) (WH ad ao cI cJ) (LH ad ao) [.ref (ad 0), .int x1, .int x2, .int x3, .ref ao] u out := by
  intro sz
  refine xMh_of (L := LH ad ao) (by decide) (Nat.le_of_ble_eq_true rfl) (fun p e s m below meth c hsz hr htab Z C => ?_)
  have hA0 : ∀ q, xA (LH ad ao) sz q → s0.heap.size ≤ q := fun q h => h.elim (hL0 q) (fun h => Nat.le_trans (xS_le Z) (by rw [hsz]; exact h))
  unfold f_Lw_run at hf
  obtain ⟨o, ho, hf⟩ := xb_some hf
  show j_h p l e rm_Lw_run s m _ below meth c 0 0 sz D ad ao cI cJ out 6 (WC ad cI u.1 ++ [(ao, .inl (cJ, 1, .inr (.inl u.2)))]) [(0, .ref (ad 0)), (1, .int x1), (2, .int x2), (3, .int x3), (4, .ref ao)] 0 []
  refine xj_aload C d_Lw_run_0 4 rfl ?_
  refine xj_iconst (v := 0) C d_Lw_run_2 rfl ?_
  refine xj_aload_n C d_Lw_run_3 rfl 0 rfl ?_
  refine xj_iload_n C d_Lw_run_4 rfl 1 rfl ?_
  refine xj_iload_n C d_Lw_run_5 rfl 2 rfl ?_
  refine xj_iload_n C d_Lw_run_6 rfl 3 rfl ?_
  refine xj_callX (rest := [.int 0, .ref ao]) (wf := WC ad cI) (L := LC ad) (wr := [(ao, .inl (cJ, 1, .inr (.inl u.2)))]) C Z hA0 htab (c_LR_run (LH_C N).1 hlt (fun q h => hL0 q (List.mem_append_left _ h)) ho) ⟨[0], rfl⟩ Y_LR_run i_Lw_31 0 rfl rfl (by decide) ⟨rfl, rfl⟩ rfl rfl (Nat.le_of_ble_eq_true rfl) d_Lw_run_7 (by decide) (by decide) (fun q h => Or.inl (List.mem_append_left _ h)) (fun a h => by rw [List.mem_singleton.mp h]; exact (LH_C N).2) (fun h0 => ?_) (fun k hk => ?_)
  · have hf := xi_pos h0 hf
    refine xj_i2l (v := o.1.2.toInt64) C d_Lw_run_10 rfl ?_
    refine xj_last (ws' := WH ad ao cI cJ (o.2, vp_updL u.2 0 o.1.2.toInt64)) C (WH_D N sz (o.2, u.2)) 31 2 rfl rfl (show xin 0 1 by decide) d_Lw_run_11 rfl ?_
    refine xj_goto (tgt := 23) C d_Lw_run_12 (by decide) ?_
    refine xj_iconst (v := 0) C d_Lw_run_23 rfl ?_
    exact xj_iret (wf := WH ad ao cI cJ) (st := (o.2, vp_updL u.2 0 o.1.2.toInt64)) C hr hf d_Lw_run_24
  · have hf := xi_neg (by rw [hk]; omega) hf
    by_cases e0 : o.1.1 = 3
    · have hf := xi_pos e0 hf
      obtain rfl : k = 2 := by omega
      refine ⟨[], (0, 12, 15, 29), [(0, 12, 19, 15)], rfl, (fun z hz => absurd hz List.not_mem_nil), by decide, BIG_at 511 (by decide +kernel) (by decide +kernel), fun qa => ?_⟩
      refine xj_astore C d_Lw_run_15 (by decide) rfl ?_
      refine xj_iconst (v := 1) C d_Lw_run_17 rfl ?_
      exact xj_iret (wf := WH ad ao cI cJ) (st := (o.2, u.2)) C hr hf d_Lw_run_18
    have hf := xi_neg e0 hf
    by_cases e1 : o.1.1 = 2
    · have hf := xi_pos e1 hf
      obtain rfl : k = 1 := by omega
      refine ⟨[(0, 12, 15, 29)], (0, 12, 19, 15), [], rfl, (fun z hz => by cases List.mem_singleton.mp hz; exact ⟨by decide, 2, by decide, BIG_at 511 (by decide +kernel) (by decide +kernel)⟩), by decide, BIG_at 387 (by decide +kernel) (by decide +kernel), fun qa => ?_⟩
      refine xj_astore C d_Lw_run_19 (by decide) rfl ?_
      refine xj_iconst (v := 2) C d_Lw_run_21 rfl ?_
      exact xj_iret (wf := WH ad ao cI cJ) (st := (o.2, u.2)) C hr hf d_Lw_run_22
    have hf := xi_neg e1 hf
    cases hf
set_option maxHeartbeats 4000000 in
set_option maxRecDepth 20000 in
theorem c_Lw_late {l : Launch} {D : va_G} {ad : Nat → Nat} {ao : Nat} {cI cZ cJ : ClassId} {s0 : State} (N : (LH ad ao).Nodup) (hlt : l.stackTraces = false) (hL0 : ∀ q ∈ LH ad ao, s0.heap.size ≤ q) {x1 x2 : Int32} {u : SH} {out : Int32 × SH} (hf : f_Lw_late x1 x2 u = some out) : xMh s0 l y_Lw_late b_Lw_late 5 (some .int) [(0, 10, 13, 29), (0, 10, 17, 13), (0, 10, 21, 15)] rm_Lw_late D (tyL cI cZ cJ) (WH ad ao cI cJ) (LH ad ao) [.ref (ad 0), .int x1, .int x2, .ref ao] u out := by
  intro sz
  refine xMh_of (L := LH ad ao) (by decide) (Nat.le_of_ble_eq_true rfl) (fun p e s m below meth c hsz hr htab Z C => ?_)
  have hA0 : ∀ q, xA (LH ad ao) sz q → s0.heap.size ≤ q := fun q h => h.elim (hL0 q) (fun h => Nat.le_trans (xS_le Z) (by rw [hsz]; exact h))
  unfold f_Lw_late at hf
  obtain ⟨o, ho, hf⟩ := xb_some hf
  show j_h p l e rm_Lw_late s m _ below meth c 0 0 sz D ad ao cI cJ out 5 (WC ad cI u.1 ++ [(ao, .inl (cJ, 1, .inr (.inl u.2)))]) [(0, .ref (ad 0)), (1, .int x1), (2, .int x2), (3, .ref ao)] 0 []
  refine xj_aload_n C d_Lw_late_0 rfl 3 rfl ?_
  refine xj_iconst (v := 0) C d_Lw_late_1 rfl ?_
  refine xj_aload_n C d_Lw_late_2 rfl 0 rfl ?_
  refine xj_iload_n C d_Lw_late_3 rfl 1 rfl ?_
  refine xj_iload_n C d_Lw_late_4 rfl 2 rfl ?_
  refine xj_callX (rest := [.int 0, .ref ao]) (wf := WC ad cI) (L := LC ad) (wr := [(ao, .inl (cJ, 1, .inr (.inl u.2)))]) C Z hA0 htab (c_LR_late (LH_C N).1 hlt (fun q h => hL0 q (List.mem_append_left _ h)) ho) ⟨[0], rfl⟩ Y_LR_late i_Lw_34 0 rfl rfl (by decide) ⟨rfl, rfl⟩ rfl rfl (Nat.le_of_ble_eq_true rfl) d_Lw_late_5 (by decide) (by decide) (fun q h => Or.inl (List.mem_append_left _ h)) (fun a h => by rw [List.mem_singleton.mp h]; exact (LH_C N).2) (fun h0 => ?_) (fun k hk => ?_)
  · have hf := xi_pos h0 hf
    refine xj_i2l (v := o.1.2.toInt64) C d_Lw_late_8 rfl ?_
    refine xj_last (ws' := WH ad ao cI cJ (o.2, vp_updL u.2 0 o.1.2.toInt64)) C (WH_D N sz (o.2, u.2)) 31 2 rfl rfl (show xin 0 1 by decide) d_Lw_late_9 rfl ?_
    refine xj_goto (tgt := 25) C d_Lw_late_10 (by decide) ?_
    refine xj_iconst (v := 0) C d_Lw_late_25 rfl ?_
    exact xj_iret (wf := WH ad ao cI cJ) (st := (o.2, vp_updL u.2 0 o.1.2.toInt64)) C hr hf d_Lw_late_26
  · have hf := xi_neg (by rw [hk]; omega) hf
    by_cases e0 : o.1.1 = 3
    · have hf := xi_pos e0 hf
      obtain rfl : k = 2 := by omega
      refine ⟨[], (0, 10, 13, 29), [(0, 10, 17, 13), (0, 10, 21, 15)], rfl, (fun z hz => absurd hz List.not_mem_nil), by decide, BIG_at 511 (by decide +kernel) (by decide +kernel), fun qa => ?_⟩
      refine xj_astore C d_Lw_late_13 (by decide) rfl ?_
      refine xj_iconst (v := 1) C d_Lw_late_15 rfl ?_
      exact xj_iret (wf := WH ad ao cI cJ) (st := (o.2, u.2)) C hr hf d_Lw_late_16
    have hf := xi_neg e0 hf
    by_cases e1 : o.1.1 = 1
    · have hf := xi_pos e1 hf
      obtain rfl : k = 0 := by omega
      refine ⟨[(0, 10, 13, 29)], (0, 10, 17, 13), [(0, 10, 21, 15)], rfl, (fun z hz => by cases List.mem_singleton.mp hz; exact ⟨by decide, 2, by decide, BIG_at 511 (by decide +kernel) (by decide +kernel)⟩), by decide, BIG_at 386 (by decide +kernel) (by decide +kernel), fun qa => ?_⟩
      refine xj_astore C d_Lw_late_17 (by decide) rfl ?_
      refine xj_iconst (v := 2) C d_Lw_late_19 rfl ?_
      exact xj_iret (wf := WH ad ao cI cJ) (st := (o.2, u.2)) C hr hf d_Lw_late_20
    have hf := xi_neg e1 hf
    by_cases e2 : o.1.1 = 2
    · have hf := xi_pos e2 hf
      obtain rfl : k = 1 := by omega
      refine ⟨[(0, 10, 13, 29), (0, 10, 17, 13)], (0, 10, 21, 15), [], rfl, (fun z hz => by rcases List.mem_cons.mp hz with rfl | hz; exact ⟨by decide, 2, by decide, BIG_at 511 (by decide +kernel) (by decide +kernel)⟩; cases List.mem_singleton.mp hz; exact ⟨by decide, 0, by decide, BIG_at 386 (by decide +kernel) (by decide +kernel)⟩), by decide, BIG_at 387 (by decide +kernel) (by decide +kernel), fun qa => ?_⟩
      refine xj_astore C d_Lw_late_21 (by decide) rfl ?_
      refine xj_iconst (v := 3) C d_Lw_late_23 rfl ?_
      exact xj_iret (wf := WH ad ao cI cJ) (st := (o.2, u.2)) C hr hf d_Lw_late_24
    have hf := xi_neg e2 hf
    cases hf
set_option maxHeartbeats 4000000 in
set_option maxRecDepth 20000 in
theorem c_Lw_home {l : Launch} {D : va_G} {ad : Nat → Nat} {ao : Nat} {cI cZ cJ : ClassId} {s0 : State} (N : (LH ad ao).Nodup) (hlt : l.stackTraces = false) (hL0 : ∀ q ∈ LH ad ao, s0.heap.size ≤ q) {x1 : Int32} {u : SH} {out : Int32 × SH} (hf : f_Lw_home x1 u = some out) : xMh s0 l y_Lw_home b_Lw_home 4 (some .int) [(0, 9, 12, 29)] rm_Lw_home D (tyL cI cZ cJ) (WH ad ao cI cJ) (LH ad ao) [.ref (ad 0), .int x1, .ref ao] u out := by
  intro sz
  refine xMh_of (L := LH ad ao) (by decide) (Nat.le_of_ble_eq_true rfl) (fun p e s m below meth c hsz hr htab Z C => ?_)
  have hA0 : ∀ q, xA (LH ad ao) sz q → s0.heap.size ≤ q := fun q h => h.elim (hL0 q) (fun h => Nat.le_trans (xS_le Z) (by rw [hsz]; exact h))
  unfold f_Lw_home at hf
  obtain ⟨o, ho, hf⟩ := xb_some hf
  show j_h p l e rm_Lw_home s m _ below meth c 0 0 sz D ad ao cI cJ out 4 (WC ad cI u.1 ++ [(ao, .inl (cJ, 1, .inr (.inl u.2)))]) [(0, .ref (ad 0)), (1, .int x1), (2, .ref ao)] 0 []
  refine xj_aload_n C d_Lw_home_0 rfl 2 rfl ?_
  refine xj_iconst (v := 0) C d_Lw_home_1 rfl ?_
  refine xj_aload_n C d_Lw_home_2 rfl 0 rfl ?_
  refine xj_iload_n C d_Lw_home_3 rfl 1 rfl ?_
  refine xj_callX (rest := [.int 0, .ref ao]) (wf := WC ad cI) (L := LC ad) (wr := [(ao, .inl (cJ, 1, .inr (.inl u.2)))]) C Z hA0 htab (c_LR_home (LH_C N).1 hlt (fun q h => hL0 q (List.mem_append_left _ h)) ho) ⟨[0], rfl⟩ Y_LR_home i_Lw_37 0 rfl rfl (by decide) ⟨rfl, rfl⟩ rfl rfl (Nat.le_of_ble_eq_true rfl) d_Lw_home_4 (by decide) (by decide) (fun q h => Or.inl (List.mem_append_left _ h)) (fun a h => by rw [List.mem_singleton.mp h]; exact (LH_C N).2) (fun h0 => ?_) (fun k hk => ?_)
  · have hf := xi_pos h0 hf
    refine xj_i2l (v := o.1.2.toInt64) C d_Lw_home_7 rfl ?_
    refine xj_last (ws' := WH ad ao cI cJ (o.2, vp_updL u.2 0 o.1.2.toInt64)) C (WH_D N sz (o.2, u.2)) 31 2 rfl rfl (show xin 0 1 by decide) d_Lw_home_8 rfl ?_
    refine xj_goto (tgt := 15) C d_Lw_home_9 (by decide) ?_
    refine xj_iconst (v := 0) C d_Lw_home_15 rfl ?_
    exact xj_iret (wf := WH ad ao cI cJ) (st := (o.2, vp_updL u.2 0 o.1.2.toInt64)) C hr hf d_Lw_home_16
  · have hf := xi_neg (by rw [hk]; omega) hf
    by_cases e0 : o.1.1 = 3
    · have hf := xi_pos e0 hf
      obtain rfl : k = 2 := by omega
      refine ⟨[], (0, 9, 12, 29), [], rfl, (fun z hz => absurd hz List.not_mem_nil), by decide, BIG_at 511 (by decide +kernel) (by decide +kernel), fun qa => ?_⟩
      refine xj_astore_n C d_Lw_home_12 rfl (by decide) rfl ?_
      refine xj_iconst (v := 1) C d_Lw_home_13 rfl ?_
      exact xj_iret (wf := WH ad ao cI cJ) (st := (o.2, u.2)) C hr hf d_Lw_home_14
    have hf := xi_neg e0 hf
    cases hf
set_option maxHeartbeats 4000000 in
set_option maxRecDepth 20000 in
theorem c_Lw_rate {l : Launch} {D : va_G} {ad : Nat → Nat} {ao : Nat} {cI cZ cJ : ClassId} {s0 : State} (N : (LH ad ao).Nodup) (hlt : l.stackTraces = false) (hL0 : ∀ q ∈ LH ad ao, s0.heap.size ≤ q) {x1 x2 : Int32} {u : SH} {out : Int32 × SH} (hf : f_Lw_rate x1 x2 u = some out) : xMh s0 l y_Lw_rate b_Lw_rate 5 (some .int) [(0, 10, 13, 13), (0, 10, 17, 44)] rm_Lw_rate D (tyL cI cZ cJ) (WH ad ao cI cJ) (LH ad ao) [.ref (ad 0), .int x1, .int x2, .ref ao] u out := by
  intro sz
  refine xMh_of (L := LH ad ao) (by decide) (Nat.le_of_ble_eq_true rfl) (fun p e s m below meth c hsz hr htab Z C => ?_)
  have hA0 : ∀ q, xA (LH ad ao) sz q → s0.heap.size ≤ q := fun q h => h.elim (hL0 q) (fun h => Nat.le_trans (xS_le Z) (by rw [hsz]; exact h))
  unfold f_Lw_rate at hf
  obtain ⟨o, ho, hf⟩ := xb_some hf
  show j_h p l e rm_Lw_rate s m _ below meth c 0 0 sz D ad ao cI cJ out 5 (WC ad cI u.1 ++ [(ao, .inl (cJ, 1, .inr (.inl u.2)))]) [(0, .ref (ad 0)), (1, .int x1), (2, .int x2), (3, .ref ao)] 0 []
  refine xj_aload_n C d_Lw_rate_0 rfl 3 rfl ?_
  refine xj_iconst (v := 0) C d_Lw_rate_1 rfl ?_
  refine xj_aload_n C d_Lw_rate_2 rfl 0 rfl ?_
  refine xj_iload_n C d_Lw_rate_3 rfl 1 rfl ?_
  refine xj_iload_n C d_Lw_rate_4 rfl 2 rfl ?_
  refine xj_callX (rest := [.int 0, .ref ao]) (wf := WC ad cI) (L := LC ad) (wr := [(ao, .inl (cJ, 1, .inr (.inl u.2)))]) C Z hA0 htab (c_LR_rate (LH_C N).1 hlt (fun q h => hL0 q (List.mem_append_left _ h)) ho) ⟨[0], rfl⟩ Y_LR_rate i_Lw_41 0 rfl rfl (by decide) ⟨rfl, rfl⟩ rfl rfl (Nat.le_of_ble_eq_true rfl) d_Lw_rate_5 (by decide) (by decide) (fun q h => Or.inl (List.mem_append_left _ h)) (fun a h => by rw [List.mem_singleton.mp h]; exact (LH_C N).2) (fun h0 => ?_) (fun k hk => ?_)
  · have hf := xi_pos h0 hf
    refine xj_i2l (v := o.1.2.toInt64) C d_Lw_rate_8 rfl ?_
    refine xj_last (ws' := WH ad ao cI cJ (o.2, vp_updL u.2 0 o.1.2.toInt64)) C (WH_D N sz (o.2, u.2)) 31 2 rfl rfl (show xin 0 1 by decide) d_Lw_rate_9 rfl ?_
    refine xj_goto (tgt := 21) C d_Lw_rate_10 (by decide) ?_
    refine xj_iconst (v := 0) C d_Lw_rate_21 rfl ?_
    exact xj_iret (wf := WH ad ao cI cJ) (st := (o.2, vp_updL u.2 0 o.1.2.toInt64)) C hr hf d_Lw_rate_22
  · have hf := xi_neg (by rw [hk]; omega) hf
    by_cases e0 : o.1.1 = 1
    · have hf := xi_pos e0 hf
      obtain rfl : k = 0 := by omega
      refine ⟨[], (0, 10, 13, 13), [(0, 10, 17, 44)], rfl, (fun z hz => absurd hz List.not_mem_nil), by decide, BIG_at 386 (by decide +kernel) (by decide +kernel), fun qa => ?_⟩
      refine xj_astore C d_Lw_rate_13 (by decide) rfl ?_
      refine xj_iconst (v := 1) C d_Lw_rate_15 rfl ?_
      exact xj_iret (wf := WH ad ao cI cJ) (st := (o.2, u.2)) C hr hf d_Lw_rate_16
    have hf := xi_neg e0 hf
    by_cases e1 : o.1.1 = 4
    · have hf := xi_pos e1 hf
      obtain rfl : k = 3 := by omega
      refine ⟨[(0, 10, 13, 13)], (0, 10, 17, 44), [], rfl, (fun z hz => by cases List.mem_singleton.mp hz; exact ⟨by decide, 0, by decide, BIG_at 386 (by decide +kernel) (by decide +kernel)⟩), by decide, BIG_at 613 (by decide +kernel) (by decide +kernel), fun qa => ?_⟩
      refine xj_astore C d_Lw_rate_17 (by decide) rfl ?_
      refine xj_iconst (v := 2) C d_Lw_rate_19 rfl ?_
      exact xj_iret (wf := WH ad ao cI cJ) (st := (o.2, u.2)) C hr hf d_Lw_rate_20
    have hf := xi_neg e1 hf
    cases hf
