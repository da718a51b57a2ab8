theorem NESTW_in : ∀ w ∈ NESTW, w ∈ tables_1 := by
  intro w hw
  simp only [NESTW, List.mem_cons, List.not_mem_nil, or_false] at hw
  rcases hw with rfl | rfl | rfl | rfl | rfl | rfl
  · exact List.mem_of_getElem? (i := 26) (by decide +kernel)
  · exact List.mem_of_getElem? (i := 58) (by decide +kernel)
  · exact List.mem_of_getElem? (i := 114) (by decide +kernel)
  · exact List.mem_of_getElem? (i := 252) (by decide +kernel)
  · exact List.mem_of_getElem? (i := 282) (by decide +kernel)
  · exact List.mem_of_getElem? (i := 291) (by decide +kernel)
/-- the reference's addresses and its state at the start -/
def mo_ad (a : Nat) (qa : Nat → Nat) : Nat → Nat := fun i => match i with
  | 0 => a
  | i + 1 => qa i
def sM0 : St := (fun k => if k = 5 then 3 else 0, fun _ _ => 0)
theorem xD_nodup {A : Nat → Prop} {ws : va_W} (h : va_D A ws) : (ws.map (·.1)).Nodup := by
  refine List.pairwise_iff_getElem.mpr (fun i j hi hj hij => ?_)
  rw [List.length_map] at hi hj
  rw [List.getElem_map, List.getElem_map]
  intro e9
  have := h.1 i j _ _ (List.getElem?_eq_getElem hi) (List.getElem?_eq_getElem hj) e9
  omega
theorem lw_N_of {ad am : Nat → Nat} {ao : Nat} {s : State} (h : ((LC ad ++ LM am) ++ [ao]).Nodup) (hA : ∀ q ∈ (LC ad ++ LM am) ++ [ao], s.heap.size ≤ q) : lw_N ad am ao s := by
  obtain ⟨h1, -, h3⟩ := List.nodup_append.mp h
  obtain ⟨h4, h5, h6⟩ := List.nodup_append.mp h1
  refine ⟨List.nodup_append.mpr ⟨h4, by simp, fun a ha b hb => h3 a (List.mem_append_left _ ha) b hb⟩, h5, fun q hq => ?_, fun q hq => hA q (List.mem_append_left _ (List.mem_append_right _ hq)), fun q hq h9 => ?_⟩
  · rcases List.mem_append.mp hq with hq | hq
    · exact hA q (List.mem_append_left _ (List.mem_append_left _ hq))
    · exact hA q (List.mem_append_right _ hq)
  · rcases List.mem_append.mp h9 with h9 | h9
    · exact h6 q h9 q hq rfl
    · exact h3 q (List.mem_append_right _ hq) q h9 rfl
theorem nc_law_8 : xNC R_Lw 8 0 4 t_LR := ⟨R_LR, F_LR, rfl, i_LR, t_LR_ok, BIG_at 16 (by decide +kernel) (by decide +kernel), BIG_at 17 (by decide +kernel) (by decide +kernel), BIG_at 1 (by decide +kernel) (by decide +kernel)⟩
theorem nc_law_47 : xNC R_Lw 47 6 25 t_Mo := ⟨R_Mo, F_Mo, rfl, i_Mo, t_Mo_ok, BIG_at 635 (by decide +kernel) (by decide +kernel), BIG_at 636 (by decide +kernel) (by decide +kernel), BIG_at 7 (by decide +kernel) (by decide +kernel)⟩
theorem ii_law_46 : xII R_Lw 46 y_LR_init := ⟨rfl, BIG_at 19 (by decide +kernel) (by decide +kernel), BIG_at 18 (by decide +kernel) (by decide +kernel)⟩
set_option maxRecDepth 20000 in
theorem Y_LR_init : xY y_LR_init b_LR_init 1 none 0 := ⟨BIG_at 20 rfl rfl, BIG_at 1 (by decide +kernel) (by decide +kernel), by decide +kernel, by decide +kernel, by decide +kernel⟩
theorem ii_law_49 : xII R_Lw 49 y_Mo_init := ⟨rfl, BIG_at 638 (by decide +kernel) (by decide +kernel), BIG_at 637 (by decide +kernel) (by decide +kernel)⟩
set_option maxRecDepth 20000 in
theorem Y_Mo_init : xY y_Mo_init b_Mo_init 1 none 0 := ⟨BIG_at 639 rfl rfl, BIG_at 7 (by decide +kernel) (by decide +kernel), by decide +kernel, by decide +kernel, by decide +kernel⟩
theorem pure_law {L : Nat} (hL : L ≤ 3072) (xs : Nat → Int32) : f_law_23 L xs 513 0 sC0 (fun _ => 0) sM0 = some 1 := pure_law9 hL xs
set_option maxHeartbeats 4000000 in
set_option maxRecDepth 100000 in
/-- THE LAW, from its entry, where its loop's pure function answers 1 -/
theorem whole_start {p : Program} {e : Env} {s : State} {m : MethodId} {below : List Frame} {meth : Method} {c : Code} (l : Launch) (hlt : l.stackTraces = false) {b L : Nat} {xs : Nat → Int32} (hL : L ≤ 3072) (C0 : lw_At p s m meth c b L xs) : W p l e room_1 s m #[Value.ref b] below meth c s.heap [] 0 0 (lw_Z below #[Value.ref b] s) (entryFrame m ([Value.ref b] : List Value).toArray 7) := by
  obtain ⟨hx, hb, hr, hml, hown, hts, hX, hbl, hlocks, hgv⟩ := id C0
  have hF0 : xF0 s := ⟨_, hts, hgv⟩
  have hB : ∀ w ∈ BIG, w.before #[Value.ref b] s = true := fun w hw => hts w (List.mem_filter.mp hw).1
  have hNw : ∀ w ∈ NESTW, va_Nw w s := fun w hw => va_Nw.of (NESTW_tab w hw) (hts w (List.mem_append_right _ (NESTW_in w hw)))
  obtain ⟨c0, i0, k0⟩ := u_known (C := R_LR) (T := F_LR) (N := 4) (n := 4) hB i_LR (hB (.instantiable R_LR 4) (BIG_at 17 (by decide +kernel) (by decide +kernel)))
  obtain ⟨c1, i1, k1⟩ := u_known (C := R_Ch) (T := F_Ch) (N := 8) (n := 8) hB i_Ch (hB (.instantiable R_Ch 8) (BIG_at 25 (by decide +kernel) (by decide +kernel)))
  obtain ⟨c2, i2, k2⟩ := u_known (C := R_Fl) (T := F_Fl) (N := 6) (n := 6) hB i_Fl (hB (.instantiable R_Fl 6) (BIG_at 57 (by decide +kernel) (by decide +kernel)))
  obtain ⟨c3, i3, k3⟩ := u_known (C := R_Be) (T := F_Be) (N := 6) (n := 6) hB i_Be (hB (.instantiable R_Be 6) (BIG_at 82 (by decide +kernel) (by decide +kernel)))
  obtain ⟨c4, i4, k4⟩ := u_known (C := R_Tt) (T := F_Tt) (N := 4) (n := 4) hB i_Tt (hB (.instantiable R_Tt 4) (BIG_at 113 (by decide +kernel) (by decide +kernel)))
  obtain ⟨c5, i5, k5⟩ := u_known (C := R_Pl) (T := F_Pl) (N := 8) (n := 8) hB i_Pl (hB (.instantiable R_Pl 8) (BIG_at 107 (by decide +kernel) (by decide +kernel)))
  obtain ⟨c6, i6, k6⟩ := u_known (C := R_Mo) (T := F_Mo) (N := 25) (n := 25) hB i_Mo (hB (.instantiable R_Mo 25) (BIG_at 636 (by decide +kernel) (by decide +kernel)))
  obtain ⟨dC, dI, hKc⟩ : ∃ (dC : Nat → ClassId) (dI : Nat → Nat → Nat), ∀ (k : Nat) (q : vw_C), classes[k]? = some q → u_Kn s q.1 q.2.1 q.2.2 (dC k) (dI k) := by
    refine ⟨fun k => match k with | 0 => c0 | 1 => c1 | 2 => c2 | 3 => c3 | 4 => c4 | 5 => c5 | _ => c6, fun k => match k with | 0 => i0 | 1 => i1 | 2 => i2 | 3 => i3 | 4 => i4 | 5 => i5 | _ => i6, ?_⟩
    intro k q hq
    match k, hq with
    | 0, hq => cases hq; exact k0
    | 1, hq => cases hq; exact k1
    | 2, hq => cases hq; exact k2
    | 3, hq => cases hq; exact k3
    | 4, hq => cases hq; exact k4
    | 5, hq => cases hq; exact k5
    | 6, hq => cases hq; exact k6
    | k + 7, hq => simp [classes] at hq
  obtain ⟨cI, kI, oI, a1, a2, a3⟩ := Cond.arrayClass_spec (hB (.arrayClass .int) (BIG_at 55 (by decide +kernel) (by decide +kernel)))
  obtain ⟨cZ, kZ, oZ, b1, b2, b3⟩ := Cond.arrayClass_spec (hB (.arrayClass .boolean) (BIG_at 717 (by decide +kernel) (by decide +kernel)))
  obtain ⟨cJ, kJ, oJ, e1, e2, e3⟩ := Cond.arrayClass_spec (hB (.arrayClass .long) (BIG_at 831 (by decide +kernel) (by decide +kernel)))
  have hK : va_K (dC, dI) classes (tyL cI cZ cJ) s := by
    refine ⟨hKc, fun k q h => ?_⟩
    match k, h with
    | 0, h => cases h; exact ⟨fun n z => ⟨fun k h => (by cases h), kI, a2, oI, a3⟩, a1⟩
    | 1, h => cases h; exact ⟨fun n z => ⟨fun k h => (by cases h), kZ, b2, oZ, b3⟩, b1⟩
    | 2, h => cases h; exact ⟨fun n z => ⟨fun k h => (by cases h), kJ, e2, oJ, e3⟩, e1⟩
    | k + 3, h => simp [tyL] at h
  have C : xC p s m #[Value.ref b] meth c (fun q => s.heap.size ≤ q) (dC, dI) 7 (tyL cI cZ cJ) code R_Lw := ⟨⟨hx, hb, hml, hown, hB⟩, hK, fun _ h => h, hlocks, hNw⟩
  have hP0 : va_P (dC, dI) classes [] s.heap := fun k q h => by simp at h
  have hD : va_D (fun q : Nat => s.heap.size ≤ q) [] := ⟨fun i j p q h => by simp at h, fun k q h => by simp at h⟩
  have hl := lv_entry ([.ref b]) (n := 7) (Nat.le_of_ble_eq_true rfl)
  rw [lg_entry_eq]
  have J : jL p l e s m b below meth c 0 0 (dC, dI) [] [(0, .ref b)] 0 [] := by
    refine xj_new (fs := [.null, .null, .null, .null]) C hD nc_law_8 (fun j hj => match j, hj with | 0, _ => rfl | 1, _ => rfl | 2, _ => rfl | 3, _ => rfl | j + 4, h => absurd h (by omega)) (by decide) (by decide) d_law_0 (fun a hD => ?_)
    refine xj_dup C d_law_3 rfl ?_
    refine xj_callC (rest := [.ref a]) (wr := []) C hD (c_LR_init (cI := cI) a) ⟨[0], rfl⟩ Y_LR_init ii_law_46 (by decide) ⟨rfl, rfl⟩ rfl rfl (Nat.le_of_ble_eq_true rfl) d_law_4 (by decide) (by decide) (fun qa hD => ?_)
    refine xj_ws (ws' := WC (lr_ad a qa) cI sC0) rfl ?_
    have hD : va_D (fun q : Nat => s.heap.size ≤ q) (WC (lr_ad a qa) cI sC0) := hD
    generalize hads : lr_ad a qa = ad at hD ⊢
    have ha0 : a = ad 0 := by rw [← hads]; rfl
    rw [ha0]
    refine xj_astore_n C d_law_7 rfl (by decide) rfl ?_
    refine xj_new (fs := [.int 0, .int 0, .int 0, .int 0, .int 0, .int 0, .int 0, .null, .null, .null, .null, .null, .null, .null, .null, .null, .null, .null, .null, .null, .null, .null, .null, .null, .null]) C hD nc_law_47 (fun j hj => match j, hj with | 0, _ => rfl | 1, _ => rfl | 2, _ => rfl | 3, _ => rfl | 4, _ => rfl | 5, _ => rfl | 6, _ => rfl | 7, _ => rfl | 8, _ => rfl | 9, _ => rfl | 10, _ => rfl | 11, _ => rfl | 12, _ => rfl | 13, _ => rfl | 14, _ => rfl | 15, _ => rfl | 16, _ => rfl | 17, _ => rfl | 18, _ => rfl | 19, _ => rfl | 20, _ => rfl | 21, _ => rfl | 22, _ => rfl | 23, _ => rfl | 24, _ => rfl | j + 25, h => absurd h (by omega)) (by decide) (by decide) d_law_8 (fun a2 hD => ?_)
    refine xj_dup C d_law_11 rfl ?_
    refine xj_callC (rest := [.ref a2]) (wr := WC ad cI sC0) C hD (c_Mo_init (cI := cI) (cZ := cZ) a2) ⟨[0, 1], rfl⟩ Y_Mo_init ii_law_49 (by decide) ⟨rfl, rfl⟩ rfl rfl (Nat.le_of_ble_eq_true rfl) d_law_12 (by decide) (by decide) (fun qm hD => ?_)
    refine xj_ws (ws' := WC ad cI sC0 ++ WM (mo_ad a2 qm) (cI, cZ) sM0) rfl ?_
    have hD : va_D (fun q : Nat => s.heap.size ≤ q) (WC ad cI sC0 ++ WM (mo_ad a2 qm) (cI, cZ) sM0) := hD
    generalize hams : mo_ad a2 qm = am at hD ⊢
    have hb0 : a2 = am 0 := by rw [← hams]; rfl
    rw [hb0]
    refine xj_astore_n C d_law_15 rfl (by decide) rfl ?_
    refine xj_iconst (v := 1) C d_law_16 rfl ?_
    refine xj_newl (N := 1) C hD 2 rfl (BIG_at 831 (by decide +kernel) (by decide +kernel)) (by decide) (by decide) (by decide) (by decide) (by decide) d_law_17 (fun ao hD => ?_)
    have N : lw_N ad am ao s := by
      have h1 := xD_nodup hD
      rw [List.map_append, List.map_append] at h1
      refine lw_N_of h1 (fun q hq => ?_)
      have h2 : q ∈ ((WC ad cI sC0 ++ WM am (cI, cZ) sM0) ++ [(ao, Sum.inl (cJ, 1, Sum.inr (Sum.inl (fun _ => 0))))] : va_W).map (·.1) := by
        rw [List.map_append, List.map_append]; exact hq
      obtain ⟨z, hz, rfl⟩ := List.mem_map.mp h2
      obtain ⟨i, hi⟩ := List.getElem?_of_mem hz
      exact hD.2 i z hi
    refine xj_astore_n C d_law_19 rfl (by decide) rfl ?_
    refine xj_iconst (v := 0) C d_law_20 rfl ?_
    refine xj_istore C d_law_21 (by decide) rfl ?_
    have K := w_law_23 (cI := cI) (cZ := cZ) (cJ := cJ) (below := below) (e := e) C hr hX hbl hlt hF0 N 513 (0 + 1 + 30 + 1 + 18 + 1) (0 + 4 + 262 + 25 + 111 + 1) 0 sC0 (fun _ => 0) sM0 (by omega) (pure_law hL xs)
    intro H locs ls hP hS hl
    refine K H locs ls ?_ hS (lv_sub hl [4, 3, 2, 1, 0] rfl)
    exact ((va_P_left (va_P_left hP)).app (va_P_right hP)).app (va_P_right (va_P_left hP))
  exact J s.heap [] _ hP0 va_S.rf hl
