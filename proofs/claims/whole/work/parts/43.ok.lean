/-! every state that calls can make is sound -/
theorem tk_ok {T : Nat → Int32} {n : Nat} {P : List (Nat → Int32)} (v : VT T n) (h : ∀ U, U ∈ P → ∃ m, VT U m) : (∀ U, U ∈ tk T P → ∃ m, VT U m) ∧ (tk T P).length ≤ 20 := by
  refine ⟨fun U hU => ?_, by unfold tk; rw [List.length_take]; omega⟩
  rcases List.mem_cons.mp (List.mem_of_mem_take hU) with rfl | hU
  · exact ⟨n, v⟩
  · exact h U hU
theorem ok_mk {T T' : Nat → Int32} {n n' : Nat} {P : List (Nat → Int32)} {q : (Nat → Option ((Nat → Int32) × Int32)) × List (Nat × Int32 × Int32) × Int32} (ok : SgOk (T, n, P, q)) (v : VT T' n') : SgOk (T', n', tk T P, q) :=
  ⟨v, (tk_ok ok.1 ok.2.1).1, ok.2.2.1, (tk_ok ok.1 ok.2.1).2, ok.2.2.2.2⟩
theorem ok_put {σ : Sg} (ok : SgOk σ) (p k w : Int32) : SgOk (f_put σ p k w).2 := by
  obtain ⟨T, n, P, q⟩ := σ
  unfold f_put
  split
  · exact ok
  · rename_i h
    split
    · exact ok
    · rename_i h2
      simp only [Bool.not_eq_false, Bool.and_eq_true] at h
      exact ok_mk ok (VT_add ok.1 (by simpa using h2) (by have := h.1.1; rw [wth_i] at this; exact this) (isKeyB_i.mp h.1.2) (isWorB_i.mp h.2))
theorem ok_take {σ : Sg} (ok : SgOk σ) (r : Int32) : SgOk (f_take σ r).2 := by
  obtain ⟨T, n, P, q⟩ := σ
  unfold f_take
  split
  · exact ok
  · rename_i h
    obtain ⟨j, hj, rfl, hjc⟩ := okr_t (n := n) (r := r) (by simpa using h) ok.1.2.1
    show SgOk (dropT T n (nI j).toNatClampNeg, n - 1, tk T P, q)
    rw [hjc]
    exact ok_mk ok (VT_drop ok.1 hj)
theorem ok_change {σ : Sg} (ok : SgOk σ) (r k w : Int32) : SgOk (f_change σ r k w).2 := by
  obtain ⟨T, n, P, q⟩ := σ
  unfold f_change
  split
  · exact ok
  · rename_i h
    split
    · exact ok
    · rename_i h2
      simp only [Bool.not_eq_false, Bool.and_eq_true] at h2
      obtain ⟨j, hj, rfl, hjc⟩ := okr_t (n := n) (r := r) (by simpa using h) ok.1.2.1
      show SgOk (chgT T (nI j).toNatClampNeg k w, n, tk T P, q)
      rw [hjc]
      exact ok_mk ok (VT_chg ok.1 hj (isKeyB_i.mp h2.1) (isWorB_i.mp h2.2))
theorem ok_frame {σ : Sg} (ok : SgOk σ) (m b e l : Int32) : SgOk (f_frame σ m b e l).2 := by
  obtain ⟨T, n, P, q⟩ := σ
  unfold f_frame
  split
  · exact ok
  · rename_i h
    simp only [Bool.not_eq_false, Bool.and_eq_true] at h
    exact ok_mk ok (VT_frm ok.1 (isBndB_i.mp h.1.1.2) (isBndB_i.mp h.1.2))
theorem ok_ahead {σ : Sg} (ok : SgOk σ) {a : Int32} (ha : a = 0 ∨ a = 1) : SgOk (f_ahead σ a).2 := by
  obtain ⟨T, n, P, q⟩ := σ
  exact ok_mk ok (VT_ahd ok.1 ha)
theorem dv_n {m d : Nat} (hm : m < 2 ^ 31) (h0 : 0 < d) (hd : d < 2 ^ 31) : dv (nI m) (nI d) = nI (m / 65536 % d) := by
  unfold dv
  rw [show (65536 : Int32) = nI 65536 from rfl, pk_div hm (by decide) (by decide), pk_rem (by omega) h0 hd]
theorem dv_b (s : Int32) {d : Nat} {e : Int32} (he : e = nI d) (h0 : 0 < d) (hd : d < 100) : ∃ j, j < d ∧ dv (dw s) e = nI j := by
  obtain ⟨m, hm, h⟩ := dw_pos s
  rw [h, he, dv_n (by omega) h0 (by omega)]
  exact ⟨_, Nat.mod_lt _ h0, rfl⟩
theorem ok_add {T : Nat → Int32} {n : Nat} {P : List (Nat → Int32)} {I : Nat → Option ((Nat → Int32) × Int32)} {B : List (Nat × Int32 × Int32)} {s s3 x1 x2 x3 : Int32} (ok : SgOk (T, n, P, I, B, s)) (h : n < 40) (h1 : ∃ j, j < 3 ∧ x1 = nI j) (h2 : ∃ j, j < 12 ∧ x2 = nI j) (h3 : ∃ j, j < 21 ∧ x3 = nI j) (h4 : 0 ≤ s3.toInt) :
    SgOk (addT T n x1 (if x2 = 11 then 1000000 else x2) (if x3 = 20 then 1000000 else x3 - 10), n + 1, tk T P, I, B, s3) := by
  have hv : VT (addT T n x1 (if x2 = 11 then 1000000 else x2) (if x3 = 20 then 1000000 else x3 - 10)) (n + 1) := by
    refine VT_add ok.1 h ?_ ?_ ?_
    · obtain ⟨j, hj, e⟩ := h1
      rw [e, nI_toInt (by omega)]; omega
    · obtain ⟨j, hj, e⟩ := h2
      rw [e]
      split
      · exact Or.inl rfl
      · exact Or.inr (by rw [nI_toInt (by omega)]; omega)
    · obtain ⟨j, hj, e⟩ := h3
      rw [e]
      split
      · exact Or.inl rfl
      · refine Or.inr ?_
        have h10 : (10 : Int32).toInt = 10 := by decide
        rw [fb_subI (by rw [nI_toInt (by omega), h10]; omega) (by rw [nI_toInt (by omega), h10]; omega), nI_toInt (by omega), h10]; omega
  obtain ⟨o1, o2, o3, o4, o5, o6, o7⟩ := ok
  exact ⟨hv, (tk_ok o1 o2).1, o3, (tk_ok o1 o2).2, o5, o6, h4⟩
theorem ok_d1 {σ : Sg} (ok : SgOk σ) (h : σ.2.1 < 40) : SgOk (f_d1 σ) := by
  obtain ⟨T, n, P, I, B, s⟩ := σ
  have h4 : 0 ≤ (dw (dw (dw s))).toInt := by
    obtain ⟨m, hm, e⟩ := dw_pos (dw (dw s))
    rw [e, nI_toInt (by omega)]; omega
  have h1 := dv_b s (e := 3) (d := 3) rfl (by decide) (by decide)
  have h2 := dv_b (dw s) (e := 12) (d := 12) rfl (by decide) (by decide)
  have h3 := dv_b (dw (dw s)) (e := 21) (d := 21) rfl (by decide) (by decide)
  simp only [f_d1]
  exact ok_add ok h h1 h2 h3 h4
theorem ok_dn {σ : Sg} (ok : SgOk σ) : ∀ m, SgOk (f_dn σ m)
  | 0 => ok
  | m + 1 => by
    have ih := ok_dn ok m
    rw [f_dn]
    split
    · rename_i h; exact ok_d1 ih h
    · exact ih
theorem ok_drift {σ : Sg} (ok : SgOk σ) (c : Int32) : SgOk (f_drift σ c).2 := by
  unfold f_drift
  split
  · exact ok
  · exact ok_dn ok _
theorem dn_stop {σ : Sg} {i : Nat} (h : ¬ (f_dn σ i).2.1 < 40) : ∀ j, f_dn σ (i + j) = f_dn σ i
  | 0 => rfl
  | j + 1 => by
    rw [← Nat.add_assoc, f_dn, dn_stop h j, if_neg h]
theorem ok_undo {σ : Sg} (ok : SgOk σ) (c : Int32) : SgOk (f_undo σ c).2 := by
  obtain ⟨T, n, P, q⟩ := σ
  unfold f_undo
  split
  · exact ok
  · split
    · exact ok
    · rename_i U hU
      have hU : P[c.toNatClampNeg - 1]? = some U := hU
      obtain ⟨m, v⟩ := ok.2.1 U (List.mem_of_getElem? hU)
      obtain ⟨o1, o2, o3, o4, o5⟩ := ok
      refine ⟨?_, fun W hW => o2 W (List.mem_of_mem_drop hW), o3, ?_, o5⟩
      · show VT U (U 0).toNatClampNeg
        rw [v.1, nI_clamp (by have := v.2.1; omega)]
        exact v
      · show (P.drop _).length ≤ 20
        rw [List.length_drop]
        have : P.length ≤ 20 := o4
        omega
theorem ok_write {σ : Sg} (ok : SgOk σ) (r w u : Int32) : SgOk (f_write σ r w u).2 := by
  obtain ⟨T, n, P, I, B, s⟩ := σ
  unfold f_write
  split
  · exact ok
  · rename_i h
    split
    · exact ok
    · split
      · exact ok
      · rename_i h3
        obtain ⟨j, hj, rfl, hjc⟩ := okr_t (n := n) (r := r) (by simpa using h) ok.1.2.1
        obtain ⟨o1, o2, o3, o4, o5, o6, o7⟩ := ok
        have h40 : n ≤ 40 := o1.2.1
        refine ⟨o1, o2, o3, o4, ?_, fun q hq => ?_, o7⟩
        · show (B ++ [_]).length ≤ 20
          have h3 : ¬ 20 ≤ B.length := h3
          rw [List.length_append, List.length_singleton]; omega
        · rcases List.mem_append.mp hq with hq | hq
          · exact o6 q hq
          · have : q = ((nI j).toNatClampNeg, w, u) := by simpa using hq
            rw [this, hjc]
            show j < 40
            omega
theorem ok_tear {σ : Sg} (ok : SgOk σ) : SgOk (f_tear σ).2 := by
  obtain ⟨o1, o2, o3, o4, o5, o6, o7⟩ := ok
  exact ⟨o1, o2, o3, o4, Nat.zero_le _, fun q hq => by simp [f_tear] at hq, o7⟩
theorem ok_seed {σ : Sg} (ok : SgOk σ) (v : Int32) : SgOk (f_seed σ v).2 := by
  unfold f_seed
  split
  · rename_i h
    obtain ⟨o1, o2, o3, o4, o5, o6, o7⟩ := ok
    refine ⟨o1, o2, o3, o4, o5, o6, ?_⟩
    rw [fa_le] at h
    exact h
  · exact ok
theorem ok_keep {σ : Sg} (ok : SgOk σ) (i : Int32) : SgOk (f_keep σ i).2 := by
  unfold f_keep
  split
  · exact ok
  · obtain ⟨o1, o2, o3, o4, o5, o6, o7⟩ := ok
    refine ⟨o1, fun U hU => by simp at hU, fun j q hj hq => ?_, Nat.zero_le _, o5, o6, o7⟩
    have hq : (if j = i.toNatClampNeg then some (σ.1, σ.2.2.2.2.2) else σ.2.2.2.1 j) = some q := hq
    split at hq
    · cases hq
      exact ⟨⟨_, o1⟩, o7⟩
    · exact o3 j q hj hq
theorem ok_goBack {σ : Sg} (ok : SgOk σ) (i : Int32) : SgOk (f_goBack σ i).2 := by
  unfold f_goBack
  split
  · exact ok
  · rename_i hw
    split
    · exact ok
    · rename_i q hq
      have hw1 : wth i 0 1 = true := by simpa using hw
      obtain ⟨j, hj1, hj2, rfl, hjc⟩ := wth_n (k := i) (a := 0) (b := 1) hw1 (by decide) (by decide)
      obtain ⟨o1, o2, o3, o4, o5, o6, o7⟩ := ok
      rw [hjc] at hq
      obtain ⟨⟨m, v⟩, h2⟩ := o3 j q (by omega) hq
      refine ⟨?_, fun U hU => by simp at hU, o3, Nat.zero_le _, o5, o6, h2⟩
      show VT q.1 (q.1 0).toNatClampNeg
      rw [v.1, nI_clamp (by have := v.2.1; omega)]
      exact v
