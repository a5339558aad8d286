/-! from the law's entry to its end -/
theorem ao_k {Cn : String} {A : Array Value} {s : State} (h : (Cond.arrayOver (.object Cn)).before A s = true) : ∃ cA : ClassId, ArrOfT s cA (.object Cn) ∧ va_RA s cA (.object Cn) := by
  obtain ⟨comp, cA, kA, h1, h2, h3, h4, h5⟩ := Cond.arrayOver_spec h
  exact ⟨cA, fun n z => ⟨fun k h => (by cases h), kA, h3, comp, h4⟩, kA, comp, h3, h4, h1, h5⟩
theorem ar_int {A : Array Value} {s : State} (h : (Cond.arrayClass .int).before A s = true) : ∃ cA : ClassId, ArrOfT s cA .int ∧ va_RA s cA .int := by
  obtain ⟨cA, kA, comp, h1, h2, h3⟩ := arr_k h
  exact ⟨cA, fun n z => ⟨fun k h => (by cases h), kA, h2, comp, h3⟩, h1⟩
theorem ar_long {A : Array Value} {s : State} (h : (Cond.arrayClass .long).before A s = true) : ∃ cA : ClassId, ArrOfT s cA .long ∧ va_RA s cA .long := by
  obtain ⟨cA, kA, comp, h1, h2, h3⟩ := arr_k h
  exact ⟨cA, fun n z => ⟨fun k h => (by cases h), kA, h2, comp, h3⟩, h1⟩
theorem ar_boolean {A : Array Value} {s : State} (h : (Cond.arrayClass .boolean).before A s = true) : ∃ cA : ClassId, ArrOfT s cA .boolean ∧ va_RA s cA .boolean := by
  obtain ⟨cA, kA, comp, h1, h2, h3⟩ := arr_k h
  exact ⟨cA, fun n z => ⟨fun k h => (by cases h), kA, h2, comp, h3⟩, h1⟩
set_option maxHeartbeats 4000000 in
theorem lw_K {p : Program} {s : State} {m : MethodId} {meth : Method} {c : Code} {b L : Nat} {xs : Nat → Int32} (C0 : lw_At p s m meth c b L xs) : ∃ (D : va_G) (k : Nat → ClassId), va_K D vwCl (tt k) s := by
  have hts := lx_ts C0
  obtain ⟨c0, i0, h0⟩ := u_known hts (cl_in 0 _ rfl) (hts _ nX0)
  obtain ⟨c1, i1, h1⟩ := u_known hts (cl_in 1 _ rfl) (hts _ nX1)
  obtain ⟨c2, i2, h2⟩ := u_known hts (cl_in 2 _ rfl) (hts _ nX2)
  obtain ⟨c3, i3, h3⟩ := u_known hts (cl_in 3 _ rfl) (hts _ nX3)
  obtain ⟨c4, i4, h4⟩ := u_known hts (cl_in 4 _ rfl) (hts _ nX4)
  obtain ⟨c5, i5, h5⟩ := u_known hts (cl_in 5 _ rfl) (hts _ nX5)
  obtain ⟨c6, i6, h6⟩ := u_known hts (cl_in 6 _ rfl) (hts _ nX6)
  obtain ⟨c7, i7, h7⟩ := u_known hts (cl_in 7 _ rfl) (hts _ nX7)
  obtain ⟨a0, b0⟩ := ar_int (hts _ a_int)
  obtain ⟨a1, b1⟩ := ar_long (hts _ a_long)
  obtain ⟨a2, b2⟩ := ar_boolean (hts _ a_boolean)
  obtain ⟨a3, b3⟩ := ao_k (Cn := RX5) (C0.2.2.2.2.2.1 _ (List.mem_of_getElem? (i := 176) (by decide +kernel)))
  obtain ⟨a4, b4⟩ := ao_k (Cn := RX2) (C0.2.2.2.2.2.1 _ (List.mem_of_getElem? (i := 210) (by decide +kernel)))
  refine ⟨(fun n => [c0, c1, c2, c3, c4, c5, c6, c7].getD n 0, fun n => [i0, i1, i2, i3, i4, i5, i6, i7].getD n (fun _ => 0)), fun n => [a0, a1, a2, a3, a4].getD n 0, fun ci q hq => ?_, fun n q hq => ?_⟩
  · match ci, q, hq with
    | 0, q, hq => cases hq; exact h0
    | 1, q, hq => cases hq; exact h1
    | 2, q, hq => cases hq; exact h2
    | 3, q, hq => cases hq; exact h3
    | 4, q, hq => cases hq; exact h4
    | 5, q, hq => cases hq; exact h5
    | 6, q, hq => cases hq; exact h6
    | 7, q, hq => cases hq; exact h7
    | n + 8, q, hq => simp [vwCl] at hq
  · match n, q, hq with
    | 0, q, hq => cases hq; exact b0
    | 1, q, hq => cases hq; exact b1
    | 2, q, hq => cases hq; exact b2
    | 3, q, hq => cases hq; exact b3
    | 4, q, hq => cases hq; exact b4
    | n + 5, q, hq => simp [tt] at hq
set_option maxHeartbeats 4000000 in
theorem lw_N {p : Program} {s : State} {m : MethodId} {meth : Method} {c : Code} {b L : Nat} {xs : Nat → Int32} (C0 : lw_At p s m meth c b L xs) : Nz s := by
  refine ⟨fun q hq => ?_, va_AO.of (C0.2.2.2.2.2.1 _ (List.mem_of_getElem? (i := 176) (by decide +kernel))), va_AO.of (C0.2.2.2.2.2.1 _ (List.mem_of_getElem? (i := 210) (by decide +kernel)))⟩
  obtain ⟨j, hj⟩ := List.getElem?_of_mem hq
  match j, q, hj with
  | 0, q, hq => cases hq; exact va_Nw.of rfl (C0.2.2.2.2.2.1 _ (List.mem_of_getElem? (i := 191) (by decide +kernel)))
  | 1, q, hq => cases hq; exact va_Nw.of rfl (C0.2.2.2.2.2.1 _ (List.mem_of_getElem? (i := 212) (by decide +kernel)))
  | 2, q, hq => cases hq; exact va_Nw.of rfl (C0.2.2.2.2.2.1 _ (List.mem_of_getElem? (i := 55) (by decide +kernel)))
  | 3, q, hq => cases hq; exact va_Nw.of rfl (C0.2.2.2.2.2.1 _ (List.mem_of_getElem? (i := 177) (by decide +kernel)))
  | 4, q, hq => cases hq; exact va_Nw.of rfl (C0.2.2.2.2.2.1 _ (List.mem_of_getElem? (i := 217) (by decide +kernel)))
  | 5, q, hq => cases hq; exact va_Nw.of rfl (C0.2.2.2.2.2.1 _ (List.mem_of_getElem? (i := 61) (by decide +kernel)))
  | 6, q, hq => cases hq; exact va_Nw.of rfl (C0.2.2.2.2.2.1 _ (List.mem_of_getElem? (i := 67) (by decide +kernel)))
  | n + 7, q, hj => simp [nst] at hj
section
variable {p : Program} {l : Launch} {e : Env} {s : State} {m : MethodId} {below : List Frame} {meth : Method} {c : Code} {b L : Nat} {xs : Nat → Int32} {D : va_G} {k : Nat → ClassId}
set_option maxHeartbeats 4000000 in
set_option maxRecDepth 100000 in
theorem lw_loop (C : lw_At p s m meth c b L xs) (hL : L ≤ 2560) : ∀ (f i : Nat), L < i + f → i ≤ 2565 → ∀ (σ : Sg) (D1 : Nat → Nat → Int32) (J1 : Nat → Nat → Int64), XR D1 σ → MR D1 σ → SgOk σ → LW p l e s m below meth c b D k 143 7378 18 (lvL s b i) [] (lay D1 J1) := by
  have hL2 : L < 2 ^ 31 := by omega
  have h5 : (5 : Int32).toInt = 5 := by decide
  have eL : (nI L).toInt = (L : Int) := nI_toInt (by omega)
  have eL5 : (nI L - 5).toInt = (L : Int) - 5 := by rw [fb_subI (by omega) (by omega), eL, h5]
  intro f
  induction f with
  | zero =>
    intro i hf hb σ D1 J1 hX hM ok
    refine lx_iload C dL_law_18 rfl (List.mem_of_getElem? (i := 0) rfl) ?_
    refine lx_aload C dL_law_19 rfl (List.mem_of_getElem? (i := 3) rfl) ?_
    refine lx_len C dL_law_20 ?_
    refine lx_iconst C (v := 5) dL_law_21 rfl ?_
    refine lx_isub C dL_law_22 ?_
    refine lx_icmp_gt C 805 dL_law_23 (by decide) (fun h => ?_) (fun h => absurd (by rw [fa_lt, eL5, nI_toInt (by omega)]; omega) h)
    refine lx_iconst C (v := 1) dL_law_805 rfl ?_
    exact lx_end C (by decide) (by decide) dL_law_806
  | succ f ih =>
    intro i hf hb σ D1 J1 hX hM ok
    refine lx_iload C dL_law_18 rfl (List.mem_of_getElem? (i := 0) rfl) ?_
    refine lx_aload C dL_law_19 rfl (List.mem_of_getElem? (i := 3) rfl) ?_
    refine lx_len C dL_law_20 ?_
    refine lx_iconst C (v := 5) dL_law_21 rfl ?_
    refine lx_isub C dL_law_22 ?_
    refine lx_icmp_gt C 805 dL_law_23 (by decide) (fun h => ?_) (fun h => ?_)
    · refine lx_iconst C (v := 1) dL_law_805 rfl ?_
      exact lx_end C (by decide) (by decide) dL_law_806
    rw [fa_lt, eL5, nI_toInt (by omega)] at h
    have hi : i + 5 ≤ L := by omega
    have next : ∀ (σ' : Sg) (D' : Nat → Nat → Int32) (J' : Nat → Nat → Int64), XR D' σ' → MR D' σ' → SgOk σ' → LW p l e s m below meth c b D k 143 7378 799 (lvL s b i) [] (lay D' J') := fun σ' D' J' hX' hM' ok' =>
      lx_iinc C (j := 0) (lv' := lvL s b (i + 5)) dL_law_799 rfl (nI_add i 5) (by decide) rfl (lx_goto C 18 dL_law_802 (by decide) (ih (i + 5) (by omega) (by omega) σ' D' J' hX' hM' ok'))
    refine lx_aload C dL_law_26 rfl (List.mem_of_getElem? (i := 3) rfl) ?_
    refine lx_iload C dL_law_27 rfl (List.mem_of_getElem? (i := 0) rfl) ?_
    refine lx_ld C i hL2 rfl (by omega) dL_law_28 ?_
    refine lx_bipush C (v := 31) dL_law_29 (by decide) ?_
    refine lx_iand C dL_law_31 ?_
    obtain ⟨j, hj, ej⟩ := pk_andE (xs i) (m := 31) 5 (by decide)
    rw [ej]
    match j, hj with
    | 0, _ => exact lx_tableIn C 136 dL_law_32 (by decide) (by decide) rfl (by decide) (q_told C hL D1 J1 σ i hi hX hM ok next)
    | 1, _ => exact lx_tableIn C 159 dL_law_32 (by decide) (by decide) rfl (by decide) (q_row C hL D1 J1 σ i hi hX hM ok next)
    | 2, _ => exact lx_tableIn C 192 dL_law_32 (by decide) (by decide) rfl (by decide) (q_standing C hL D1 J1 σ i hi hX hM ok next)
    | 3, _ => exact lx_tableIn C 215 dL_law_32 (by decide) (by decide) rfl (by decide) (q_put C hL D1 J1 σ i hi hX hM ok next)
    | 4, _ => exact lx_tableIn C 258 dL_law_32 (by decide) (by decide) rfl (by decide) (q_take C hL D1 J1 σ i hi hX hM ok next)
    | 5, _ => exact lx_tableIn C 281 dL_law_32 (by decide) (by decide) rfl (by decide) (q_change C hL D1 J1 σ i hi hX hM ok next)
    | 6, _ => exact lx_tableIn C 324 dL_law_32 (by decide) (by decide) rfl (by decide) (q_frame C hL D1 J1 σ i hi hX hM ok next)
    | 7, _ => exact lx_tableIn C 377 dL_law_32 (by decide) (by decide) rfl (by decide) (q_ahead C hL D1 J1 σ i hi hX hM ok next)
    | 8, _ => exact lx_tableIn C 416 dL_law_32 (by decide) (by decide) rfl (by decide) (q_drift C hL D1 J1 σ i hi hX hM ok next)
    | 9, _ => exact lx_tableIn C 439 dL_law_32 (by decide) (by decide) rfl (by decide) (q_undo C hL D1 J1 σ i hi hX hM ok next)
    | 10, _ => exact lx_tableIn C 462 dL_law_32 (by decide) (by decide) rfl (by decide) (q_of C hL D1 J1 σ i hi hX hM ok next)
    | 11, _ => exact lx_tableIn C 495 dL_law_32 (by decide) (by decide) rfl (by decide) (q_rows C hL D1 J1 σ i hi hX hM ok next)
    | 12, _ => exact lx_tableIn C 519 dL_law_32 (by decide) (by decide) rfl (by decide) (q_inFrame C hL D1 J1 σ i hi hX hM ok next)
    | 13, _ => exact lx_tableIn C 552 dL_law_32 (by decide) (by decide) rfl (by decide) (q_heap C hL D1 J1 σ i hi hX hM ok next)
    | 14, _ => exact lx_tableIn C 585 dL_law_32 (by decide) (by decide) rfl (by decide) (q_shift C hL D1 J1 σ i hi hX hM ok next)
    | 15, _ => exact lx_tableIn C 618 dL_law_32 (by decide) (by decide) rfl (by decide) (q_best C hL D1 J1 σ i hi hX hM ok next)
    | 16, _ => exact lx_tableIn C 641 dL_law_32 (by decide) (by decide) rfl (by decide) (q_would C hL D1 J1 σ i hi hX hM ok next)
    | 17, _ => exact lx_tableIn C 674 dL_law_32 (by decide) (by decide) rfl (by decide) (q_write C hL D1 J1 σ i hi hX hM ok next)
    | 18, _ => exact lx_tableIn C 717 dL_law_32 (by decide) (by decide) rfl (by decide) (q_tear C hL D1 J1 σ i hi hX hM ok next)
    | 19, _ => exact lx_tableIn C 730 dL_law_32 (by decide) (by decide) rfl (by decide) (q_seed C hL D1 J1 σ i hi hX hM ok next)
    | 20, _ => exact lx_tableIn C 753 dL_law_32 (by decide) (by decide) rfl (by decide) (q_keep C hL D1 J1 σ i hi hX hM ok next)
    | 21, _ => exact lx_tableIn C 776 dL_law_32 (by decide) (by decide) rfl (by decide) (q_goBack C hL D1 J1 σ i hi hX hM ok next)
    | n + 22, hn =>
      refine lx_tableOut C 799 dL_law_32 (Or.inr ?_) (by decide) (next σ D1 J1 hX hM ok)
      rw [nI_toInt (by omega)]
      omega
end
set_option maxHeartbeats 4000000 in
set_option maxRecDepth 100000 in
theorem whole_start {p : Program} {e : Env} {s : State} {m : MethodId} {below : List Frame} {meth : Method} {c : Code} (l : Launch) (hflags : l.flags = flags0) {b L : Nat} {xs : Nat → Int32} (hL : L ≤ 2560) (C0 : lw_At p s m meth c b L xs) : W p l e room_1 s m #[Value.ref b] below meth c s.heap [] 0 0 (lw_Z below #[Value.ref b] s) (entryFrame m ([Value.ref b] : List Value).toArray 4) := by
  obtain ⟨D, k, hK⟩ := lw_K C0
  have hN := lw_N C0
  have hl := lv_entry ([.ref b]) (n := 4) (Nat.le_of_ble_eq_true rfl)
  rw [lg_entry_eq]
  have K : LW p l e s m below meth c b D k 0 0 0 [(0, .ref b)] [] [] := by
    refine lx_new C0 (G := []) (ci := 6) (fs := df6) dL_law_0 rfl lL_7 nX6 sX6 dfl6 (fun _ => rfl) (by decide) (by decide) ?_
    refine lx_dup C0 dL_law_3 rfl ?_
    refine lx_init C0 (i := 0) (st := [.ref (s.heap.size + 0)]) (cells := 1) (slots := 10) (G := [] ++ [.inr (6, df6)]) dL_law_4 gL_9 (Nat.le_of_ble_eq_true rfl) (i_6 (A := []) (t := 0) rfl) (by decide) (by decide) (by decide) (fun res G' hp => ?_)
    obtain ⟨rfl, rfl⟩ := hp
    refine lx_astore C0 (x := s.heap.size + 0) (st := []) (lv' := [(1, .ref (s.heap.size + 0)), (0, .ref b)]) dL_law_7 rfl (by decide) rfl ?_
    refine lx_new C0 (G := deskC 0) (ci := 7) (fs := df7) dL_law_8 rfl lL_10 nX7 sX7 dfl7 (fun _ => rfl) (by decide) (by decide) ?_
    rw [deskC_len]
    refine lx_dup C0 dL_law_11 rfl ?_
    refine lx_init C0 (i := 124) (st := [.ref (s.heap.size + 124)]) (cells := 125) (slots := 3810) dL_law_12 gL_12 (Nat.le_of_ble_eq_true rfl) (i_7 (A := deskC 0) (t := 124) deskC_len) (by decide) (by decide) (by decide) (fun res G' hp => ?_)
    obtain ⟨rfl, hg⟩ := hp
    rw [hg, lay_0]
    refine lx_astore C0 (x := s.heap.size + 124) (st := []) (lv' := [(2, .ref (s.heap.size + 124)), (1, .ref (s.heap.size + 0)), (0, .ref b)]) dL_law_15 rfl (by decide) rfl ?_
    refine lx_iconst C0 (v := 0) dL_law_16 rfl ?_
    refine lx_istore C0 (lv' := lvL s b 0) dL_law_17 rfl (by decide) rfl ?_
    exact lw_loop C0 hL (L + 1) 0 (by omega) (by omega) σ0 D0 J0 xr_0 mr_0 ok_0
  refine K s.heap [] _ ⟨hK, fun n q hq => ?_, rfl, va_S.rf, Nat.le_refl _, hN⟩ hl
  simp [ww] at hq
