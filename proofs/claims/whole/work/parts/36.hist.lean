theorem sh0 : shL[0]? = some (.inr (6, [some 1, some 2, some 3, some 14, some 15, some 16, some 27, some 109, some 113, none])) := by decide +kernel
theorem sh27 : shL[27]? = some (.inr (1, [some 28, none, none])) := by decide +kernel
theorem sh28 : shL[28]? = some (.inl (3, 20)) := by decide +kernel
theorem sh109 : shL[109]? = some (.inr (0, [some 110, some 111, some 112, none])) := by decide +kernel
theorem sh110 : shL[110]? = some (.inl (0, 20)) := by decide +kernel
theorem sh111 : shL[111]? = some (.inl (0, 20)) := by decide +kernel
theorem sh112 : shL[112]? = some (.inl (0, 20)) := by decide +kernel
theorem sh113 : shL[113]? = some (.inl (4, 2)) := by decide +kernel
theorem sh124 : shL[124]? = some (.inr (7, [some 125, some 126, some 127, none, some 128, some 129, none, some 130, none, some 131, some 132, some 133, some 134, some 135, some 136, some 137, none, none, none, some 138, some 139, none, some 140, some 141, some 142])) := by decide +kernel
theorem sh125 : shL[125]? = some (.inl (0, 126)) := by decide +kernel
theorem sh126 : shL[126]? = some (.inl (0, 126)) := by decide +kernel
theorem sh127 : shL[127]? = some (.inl (0, 2520)) := by decide +kernel
theorem sh128 : shL[128]? = some (.inl (0, 254)) := by decide +kernel
theorem sh129 : shL[129]? = some (.inl (2, 2)) := by decide +kernel
theorem sh130 : shL[130]? = some (.inl (0, 60)) := by decide +kernel
theorem sh131 : shL[131]? = some (.inl (0, 40)) := by decide +kernel
theorem sh132 : shL[132]? = some (.inl (0, 40)) := by decide +kernel
theorem sh133 : shL[133]? = some (.inl (0, 40)) := by decide +kernel
theorem sh134 : shL[134]? = some (.inl (0, 40)) := by decide +kernel
theorem sh135 : shL[135]? = some (.inl (0, 40)) := by decide +kernel
theorem sh136 : shL[136]? = some (.inl (0, 40)) := by decide +kernel
theorem sh137 : shL[137]? = some (.inl (0, 40)) := by decide +kernel
theorem sh138 : shL[138]? = some (.inl (0, 40)) := by decide +kernel
theorem sh139 : shL[139]? = some (.inl (0, 40)) := by decide +kernel
theorem sh140 : shL[140]? = some (.inl (1, 40)) := by decide +kernel
theorem sh141 : shL[141]? = some (.inl (0, 40)) := by decide +kernel
theorem sh142 : shL[142]? = some (.inl (0, 40)) := by decide +kernel
theorem shI {i : Nat} (h : i < 2) : shL[114 + 5 * i]? = some (.inr (2, [some (114 + 5 * i + 1), none, none])) := by
  rcases (show i = 0 ∨ i = 1 by omega) with rfl | rfl <;> decide +kernel
theorem tabI {i : Nat} (h : i < 2) : TabIx (114 + 5 * i + 1) := by
  rcases (show i = 0 ∨ i = 1 by omega) with rfl | rfl
  · exact Or.inr (Or.inr (Or.inr (Or.inl rfl)))
  · exact Or.inr (Or.inr (Or.inr (Or.inr rfl)))
theorem tabH {k : Nat} (h : k < 20) : TabIx (29 + 4 * k) := Or.inr (Or.inr (Or.inl ⟨k, h, rfl⟩))
theorem tab3 : TabIx 3 := Or.inl rfl
theorem tab16 : TabIx 16 := Or.inr (Or.inl rfl)
theorem len1 : LenIx 1 := Or.inl rfl
theorem len14 : LenIx 14 := Or.inr rfl
/-! the latest tables, in a ring; the book -/
def HisOf (D : Nat → Nat → Int32) (P : List (Nat → Int32)) : Prop := ∃ x, x < 20 ∧ D 27 1 = nI x ∧ D 27 2 = nI P.length ∧ P.length ≤ 20 ∧ ∀ (j : Nat) (T : Nat → Int32), P[j]? = some T → TabOf D (29 + 4 * ((x + 19 - j) % 20)) T
theorem HisOf.of {D D' : Nat → Nat → Int32} {P : List (Nat → Int32)} (h : HisOf D P) (h0 : ∀ a, 27 ≤ a → a < 109 → D' a = D a) : HisOf D' P := by
  obtain ⟨x, h1, h2, h3, h4, h5⟩ := h
  refine ⟨x, h1, by rw [h0 27 (by omega) (by omega)]; exact h2, by rw [h0 27 (by omega) (by omega)]; exact h3, h4, fun j T hj => ?_⟩
  have hm := Nat.mod_lt (x + 19 - j) (show 20 > 0 by decide)
  exact (h5 j T hj).of (h0 _ (by omega) (by omega)) (h0 _ (by omega) (by omega)) (h0 _ (by omega) (by omega)) (h0 _ (by omega) (by omega))
theorem ring1 {x j : Nat} (hx : x < 20) (hj : j < 19) : ((x + 1) % 20 + 19 - (j + 1)) % 20 = (x + 19 - j) % 20 := by omega
theorem ring0 {x : Nat} (hx : x < 20) : ((x + 1) % 20 + 19 - 0) % 20 = x := by omega
theorem ringN {x j : Nat} (hx : x < 20) (hj : j < 19) : (x + 19 - j) % 20 ≠ x := by omega
theorem ringR {x n j : Nat} (hx : x < 20) (hn : 1 ≤ n) (hj : n + j < 20) : ((x + 20 - n) % 20 + 19 - j) % 20 = (x + 19 - (n + j)) % 20 := by omega
theorem his_push {D E : Nat → Nat → Int32} {P : List (Nat → Int32)} {x : Nat} {T : Nat → Int32} (hx : x < 20) (hl : P.length ≤ 20) (h5 : ∀ (j : Nat) (T : Nat → Int32), P[j]? = some T → TabOf D (29 + 4 * ((x + 19 - j) % 20)) T) (hT : TabOf E (29 + 4 * x) T) (hf : ∀ a, a ≠ 29 + 4 * x → a ≠ 29 + 4 * x + 1 → a ≠ 29 + 4 * x + 2 → a ≠ 29 + 4 * x + 3 → E a = D a) :
    HisOf (up (up E 27 1 (nI ((x + 1) % 20))) 27 2 (nI ((T :: P).take 20).length)) ((T :: P).take 20) := by
  have hE : ∀ a, a ≠ 27 → up (up E 27 1 (nI ((x + 1) % 20))) 27 2 (nI ((T :: P).take 20).length) a = E a := fun a ha => by rw [up_n _ _ _ ha, up_n _ _ _ ha]
  refine ⟨(x + 1) % 20, Nat.mod_lt _ (by decide), ?_, ?_, ?_, fun j U hj => ?_⟩
  · rw [up_s, pk_un (by decide), up_s, pk_us]
  · rw [up_s, pk_us]
  · rw [List.length_take]; omega
  · have hj20 : j < 20 := by have := (List.getElem?_eq_some_iff.mp hj).1; rw [List.length_take] at this; omega
    rw [List.getElem?_take_of_lt hj20] at hj
    cases j with
    | zero =>
      rw [List.getElem?_cons_zero] at hj
      cases hj
      rw [ring0 hx]
      exact hT.of (hE _ (by omega)) (hE _ (by omega)) (hE _ (by omega)) (hE _ (by omega))
    | succ j =>
      rw [List.getElem?_cons_succ] at hj
      rw [ring1 hx (by omega)]
      have h1 := h5 j U hj
      have h2 := ringN (x := x) (j := j) hx (by omega)
      generalize (x + 19 - j) % 20 = y at h1 h2 ⊢
      exact h1.of ((hE _ (by omega)).trans (hf _ (by omega) (by omega) (by omega) (by omega))) ((hE _ (by omega)).trans (hf _ (by omega) (by omega) (by omega) (by omega))) ((hE _ (by omega)).trans (hf _ (by omega) (by omega) (by omega) (by omega))) ((hE _ (by omega)).trans (hf _ (by omega) (by omega) (by omega) (by omega)))
theorem take_len {T : Nat → Int32} {P : List (Nat → Int32)} (hl : P.length ≤ 20) : (if (20 : Int32) < nI (P.length + 1) then (20 : Int32) else nI (P.length + 1)) = nI ((T :: P).take 20).length := by
  rw [List.length_take, List.length_cons]
  by_cases h : 20 < P.length + 1
  · show (if nI 20 < nI (P.length + 1) then nI 20 else nI (P.length + 1)) = _
    rw [if_pos (nI_lt h (by omega)), Nat.min_eq_left (by omega)]
  · show (if nI 20 < nI (P.length + 1) then nI 20 else nI (P.length + 1)) = _
    rw [if_neg (nI_nlt (by omega) (by decide)), Nat.min_eq_right (by omega)]
set_option maxHeartbeats 4000000 in
set_option maxRecDepth 100000 in
theorem c_remember (D : Nat → Nat → Int32) (J : Nat → Nat → Int64) (P : List (Nat → Int32)) (hH : HisOf D P) (T : Nat → Int32) (hT : TabOf D 3 T) (hz : D 3 8 = 0 ∨ D 3 8 = 1) : FD yX1_remember cX1_remember 2 none 2 [.ref 27, .ref 3] D J (fun res D' J' => res = none ∧ J' = J ∧ HisOf D' ((T :: P).take 20) ∧ ∀ a, a < 27 ∨ 109 ≤ a → D' a = D a) := by
  refine FD.of (by decide) rfl (Nat.le_of_ble_eq_true rfl) (fun Post hPost => ?_)
  show FV _ _ _ _ _ _ _ _ _ _ _ _ [_, _] [] _
  obtain ⟨x, hx, h1, h2, hl, h5⟩ := hH
  have hd := (tabH hx).dis tab3 (by omega)
  refine fv_aload_n (q := 1) dX1_remember_0 rfl rfl ?_
  refine fl_getR (q := 4) dX1_remember_1 fX1_11 sh27 rfl rfl ?_
  refine fv_aload_n (q := 5) dX1_remember_4 rfl rfl ?_
  refine fl_getI (q := 8) dX1_remember_5 fX1_17 sh27 rfl rfl ?_
  refine fl_aald3 (q := 9) x dX1_remember_8 sh28 (by decide) h1 hx rfl ?_
  refine fv_aload_n (q := 10) dX1_remember_9 rfl rfl ?_
  refine fl_callV (As := [_]) (q := 13) dX1_remember_10 gX1_25 rfl (tabH hx).sh.1 rfl rfl (Nat.le_of_ble_eq_true rfl) rfl (by decide) (c_copy (29 + 4 * x) 3 (tabH hx) tab3 (by omega) D J hz) (fun res D1 J1 hp => ?_)
  obtain ⟨rfl, rfl, hC, hf⟩ := hp
  refine fv_aload_n (q := 14) dX1_remember_13 rfl rfl ?_
  refine fv_aload_n (q := 15) dX1_remember_14 rfl rfl ?_
  refine fl_getI (q := 18) dX1_remember_15 fX1_17 sh27 rfl rfl ?_
  refine fv_top (y := nI x) (by rw [hf _ (by omega) (by omega) (by omega) (by omega)]; exact h1) ?_
  refine fv_iconst (v := 1) (q := 19) dX1_remember_18 (by decide) rfl ?_
  refine fv_iadd (q := 20) dX1_remember_19 rfl ?_
  refine fv_top (nI_1 _) ?_
  refine fv_bipush (v := 20) (q := 22) dX1_remember_20 (by decide) rfl ?_
  refine fv_irem (q := 23) dX1_remember_22 (by decide) rfl ?_
  refine fv_top (y := nI ((x + 1) % 20)) (pk_rem (d := 20) (by omega) (by decide) (by decide)) ?_
  refine fl_putI (q := 26) dX1_remember_23 fX1_17 sh27 rfl rfl rfl rfl ?_
  refine fv_aload_n (q := 27) dX1_remember_26 rfl rfl ?_
  refine fv_aload_n (q := 28) dX1_remember_27 rfl rfl ?_
  refine fl_getI (q := 31) dX1_remember_28 fX1_21 sh27 rfl rfl ?_
  refine fv_top (y := nI P.length) (by rw [up_s, pk_un (by decide), hf _ (by omega) (by omega) (by omega) (by omega)]; exact h2) ?_
  refine fv_iconst (v := 1) (q := 32) dX1_remember_31 (by decide) rfl ?_
  refine fv_iadd (q := 33) dX1_remember_32 rfl ?_
  refine fv_top (nI_1 _) ?_
  refine fv_bipush (v := 20) (q := 35) dX1_remember_33 (by decide) rfl ?_
  refine fl_min (q := 38) dX1_remember_35 gX1_29 (by decide) (Nat.le_of_ble_eq_true rfl) rfl ?_
  refine fv_top (take_len (T := T) hl) ?_
  refine fl_putI (q := 41) dX1_remember_38 fX1_21 sh27 rfl rfl rfl rfl ?_
  refine fv_vret dX1_remember_41 rfl rfl (Nat.le_refl _) ?_
  exact hPost _ _ _ ⟨rfl, rfl, his_push hx hl h5 (hC T hT) hf, fun a ha => by rw [up_n _ _ _ (by omega), up_n _ _ _ (by omega)]; exact hf a (by omega) (by omega) (by omega) (by omega)⟩
theorem his_pop {D E : Nat → Nat → Int32} {P : List (Nat → Int32)} {x n : Nat} (hx : x < 20) (hn : 1 ≤ n) (hnl : n ≤ P.length) (hl : P.length ≤ 20) (h5 : ∀ (j : Nat) (T : Nat → Int32), P[j]? = some T → TabOf D (29 + 4 * ((x + 19 - j) % 20)) T) (h1 : E 27 1 = nI ((x + 20 - n) % 20)) (h2 : E 27 2 = nI (P.length - n)) (hf : ∀ a, 28 ≤ a → a < 109 → E a = D a) : HisOf E (P.drop n) := by
  refine ⟨(x + 20 - n) % 20, Nat.mod_lt _ (by decide), h1, by rw [List.length_drop]; exact h2, by rw [List.length_drop]; omega, fun j T hj => ?_⟩
  rw [List.getElem?_drop] at hj
  have hlt := (List.getElem?_eq_some_iff.mp hj).1
  rw [ringR hx hn (by omega)]
  have h9 := h5 _ T hj
  have hm := Nat.mod_lt (x + 19 - (n + j)) (show 20 > 0 by decide)
  generalize (x + 19 - (n + j)) % 20 = y at h9 hm ⊢
  exact h9.of (hf _ (by omega) (by omega)) (hf _ (by omega) (by omega)) (hf _ (by omega) (by omega)) (hf _ (by omega) (by omega))
set_option maxHeartbeats 4000000 in
set_option maxRecDepth 100000 in
theorem c_restore (D : Nat → Nat → Int32) (J : Nat → Nat → Int64) (P : List (Nat → Int32)) (hH : HisOf D P) (n : Nat) (hn : 1 ≤ n) (hnl : n ≤ P.length) (hz : ∀ T, T ∈ P → T 5 = 0 ∨ T 5 = 1) : FD yX1_restore cX1_restore 3 none 2 [.ref 27, .int (nI n), .ref 3] D J (fun res D' J' => res = none ∧ J' = J ∧ HisOf D' (P.drop n) ∧ (∀ T, P[n - 1]? = some T → TabOf D' 3 T) ∧ ∀ a, a ≠ 27 → a ≠ 3 → a ≠ 4 → a ≠ 5 → a ≠ 6 → D' a = D a) := by
  refine FD.of (by decide) rfl (Nat.le_of_ble_eq_true rfl) (fun Post hPost => ?_)
  show FV _ _ _ _ _ _ _ _ _ _ _ _ [_, _, _] [] _
  obtain ⟨x, hx, h1, h2, hl, h5⟩ := hH
  obtain ⟨T, hT⟩ : ∃ T, P[n - 1]? = some T := ⟨P[n - 1], List.getElem?_eq_getElem (by omega)⟩
  have hy := Nat.mod_lt (x + 20 - n) (show 20 > 0 by decide)
  have hTn := h5 _ _ hT
  have ey : (x + 19 - (n - 1)) % 20 = (x + 20 - n) % 20 := by omega
  rw [ey] at hTn
  generalize hye : (x + 20 - n) % 20 = y at hTn hy
  refine fv_iload_n (q := 1) dX1_restore_0 rfl rfl ?_
  refine fv_iconst (v := 1) (q := 2) dX1_restore_1 (by decide) rfl ?_
  refine fv_icmp_lt (q := 5) 13 dX1_restore_2 (by decide) rfl (fun c2 => absurd c2 (nI_nlt (b := 1) hn (by omega))) (fun c2 => ?_)
  refine fv_iload_n (q := 6) dX1_restore_5 rfl rfl ?_
  refine fv_aload_n (q := 7) dX1_restore_6 rfl rfl ?_
  refine fl_getI (q := 10) dX1_restore_7 fX1_21 sh27 rfl rfl ?_
  refine fv_top h2 ?_
  refine fv_icmp_le (q := 13) 14 dX1_restore_10 (by decide) rfl (fun c10 => ?_) (fun c10 => absurd (nI_le hnl (by omega)) c10)
  refine fv_aload_n (q := 15) dX1_restore_14 rfl rfl ?_
  refine fv_aload_n (q := 16) dX1_restore_15 rfl rfl ?_
  refine fl_getI (q := 19) dX1_restore_16 fX1_17 sh27 rfl rfl ?_
  refine fv_top h1 ?_
  refine fv_bipush (v := 20) (q := 21) dX1_restore_19 (by decide) rfl ?_
  refine fv_iadd (q := 22) dX1_restore_21 rfl ?_
  refine fv_top (nI_add x 20) ?_
  refine fv_iload_n (q := 23) dX1_restore_22 rfl rfl ?_
  refine fv_isub (q := 24) dX1_restore_23 rfl ?_
  refine fv_top (pk_sub (by omega)) ?_
  refine fv_bipush (v := 20) (q := 26) dX1_restore_24 (by decide) rfl ?_
  refine fv_irem (q := 27) dX1_restore_26 (by decide) rfl ?_
  refine fv_top (y := nI y) (by rw [← hye]; exact pk_rem (d := 20) (by omega) (by decide) (by decide)) ?_
  refine fl_putI (q := 30) dX1_restore_27 fX1_17 sh27 rfl rfl rfl rfl ?_
  refine fv_aload_n (q := 31) dX1_restore_30 rfl rfl ?_
  refine fv_dup (q := 32) dX1_restore_31 rfl rfl ?_
  refine fl_getI (q := 35) dX1_restore_32 fX1_21 sh27 rfl rfl ?_
  refine fv_top (y := nI P.length) (by rw [up_s, pk_un (by decide)]; exact h2) ?_
  refine fv_iload_n (q := 36) dX1_restore_35 rfl rfl ?_
  refine fv_isub (q := 37) dX1_restore_36 rfl ?_
  refine fv_top (pk_sub hnl) ?_
  refine fl_putI (q := 40) dX1_restore_37 fX1_21 sh27 rfl rfl rfl rfl ?_
  refine fv_aload_n (q := 41) dX1_restore_40 rfl rfl ?_
  refine fv_aload_n (q := 42) dX1_restore_41 rfl rfl ?_
  refine fl_getR (q := 45) dX1_restore_42 fX1_11 sh27 rfl rfl ?_
  refine fv_aload_n (q := 46) dX1_restore_45 rfl rfl ?_
  refine fl_getI (q := 49) dX1_restore_46 fX1_17 sh27 rfl rfl ?_
  refine fv_top (y := nI y) (by rw [up_s, pk_un (by decide), up_s, pk_us]) ?_
  obtain ⟨E, hE⟩ : ∃ E, E = up (up D 27 1 (nI y)) 27 2 (nI (P.length - n)) := ⟨_, rfl⟩
  rw [← hE]
  have hfE : ∀ a, a ≠ 27 → E a = D a := fun a ha => by rw [hE, up_n _ _ _ ha, up_n _ _ _ ha]
  have hTE : TabOf E (29 + 4 * y) T := hTn.of (hfE _ (by omega)) (hfE _ (by omega)) (hfE _ (by omega)) (hfE _ (by omega))
  refine fl_aald3 (q := 50) y dX1_restore_49 sh28 (by decide) rfl hy rfl ?_
  refine fl_callV (As := [_]) (q := 53) dX1_restore_50 gX1_25 rfl tab3.sh.1 rfl rfl (Nat.le_of_ble_eq_true rfl) rfl (by decide) (c_copy 3 (29 + 4 * y) tab3 (tabH hy) (by omega) E J (by rw [hTE.1 5 (by decide)]; exact hz _ (List.mem_of_getElem? hT))) (fun res D1 J1 hp => ?_)
  obtain ⟨rfl, rfl, hC, hf⟩ := hp
  refine fv_vret dX1_restore_53 rfl rfl (Nat.le_refl _) ?_
  refine hPost _ _ _ ⟨rfl, rfl, his_pop hx hn hnl hl h5 ?_ ?_ (fun a g1 g2 => by rw [hf a (by omega) (by omega) (by omega) (by omega)]; exact hfE a (by omega)), fun U hU => ?_, fun a g0 g1 g2 g3 g4 => by rw [hf a g1 g2 g3 g4]; exact hfE a g0⟩
  · rw [hf _ (by decide) (by decide) (by decide) (by decide), hE, up_s, pk_un (by decide), up_s, pk_us, hye]
  · rw [hf _ (by decide) (by decide) (by decide) (by decide), hE, up_s, pk_us]
  · rw [hT] at hU; cases hU; exact hC T hTE
set_option maxHeartbeats 4000000 in
set_option maxRecDepth 100000 in
theorem c_forget (D : Nat → Nat → Int32) (J : Nat → Nat → Int64) : FD yX1_forget cX1_forget 1 none 0 [.ref 27] D J (fun res D' J' => res = none ∧ J' = J ∧ D' = up D 27 2 0) := by
  refine FD.of (by decide) rfl (Nat.le_of_ble_eq_true rfl) (fun Post hPost => ?_)
  show FV _ _ _ _ _ _ _ _ _ _ _ _ [_] [] _
  refine fv_aload_n (q := 1) dX1_forget_0 rfl rfl ?_
  refine fv_iconst (v := 0) (q := 2) dX1_forget_1 (by decide) rfl ?_
  refine fl_putI (q := 5) dX1_forget_2 fX1_21 sh27 rfl rfl rfl rfl ?_
  refine fv_vret dX1_forget_5 rfl rfl (Nat.le_refl _) ?_
  exact hPost _ _ _ ⟨rfl, rfl, rfl⟩
theorem his_0 {D : Nat → Nat → Int32} {P : List (Nat → Int32)} (h : HisOf D P) : HisOf (up D 27 2 0) [] := by
  obtain ⟨x, h1, h2, h3, h4, h5⟩ := h
  exact ⟨x, h1, by rw [up_s, pk_un (by decide)]; exact h2, by rw [up_s, pk_us]; rfl, by decide, fun j T hj => by simp at hj⟩
def BookOf (D : Nat → Nat → Int32) (B : List (Nat × Int32 × Int32)) : Prop := D 109 3 = nI B.length ∧ B.length ≤ 20 ∧ ∀ (j : Nat) (q : Nat × Int32 × Int32), B[j]? = some q → q.1 < 40 ∧ D 110 j = nI q.1 ∧ D 111 j = q.2.1 ∧ D 112 j = q.2.2
theorem BookOf.of {D D' : Nat → Nat → Int32} {B : List (Nat × Int32 × Int32)} (h : BookOf D B) (h0 : D' 109 = D 109) (h1 : D' 110 = D 110) (h2 : D' 111 = D 111) (h3 : D' 112 = D 112) : BookOf D' B := by
  unfold BookOf; rw [h0, h1, h2, h3]; exact h
theorem book_push {D : Nat → Nat → Int32} {B : List (Nat × Int32 × Int32)} (h : BookOf D B) (hl : B.length < 20) {r : Nat} (hr : r < 40) {w v : Int32} : BookOf (up (up (up (up D 110 B.length (nI r)) 111 B.length w) 112 B.length v) 109 3 (nI (B.length + 1))) (B ++ [(r, w, v)]) := by
  refine ⟨by rw [up_s, pk_us, List.length_append]; rfl, by rw [List.length_append]; exact hl, fun j q hj => ?_⟩
  rw [up_n _ _ _ (by decide), up_n _ _ _ (by decide), up_n _ _ _ (by decide), up_s, up_n _ _ _ (by decide), up_n _ _ _ (by decide), up_s, up_n _ _ _ (by decide), up_n _ _ _ (by decide), up_s, up_n _ _ _ (by decide), up_n _ _ _ (by decide)]
  by_cases e : j < B.length
  · rw [List.getElem?_append_left e] at hj
    rw [pk_un (by omega), pk_un (by omega), pk_un (by omega)]
    exact h.2.2 j q hj
  · rw [List.getElem?_append_right (by omega)] at hj
    have : j - B.length < 1 := (List.getElem?_eq_some_iff.mp hj).1
    have e : j = B.length := by omega
    subst e
    rw [Nat.sub_self] at hj
    cases hj
    rw [pk_us, pk_us, pk_us]
    exact ⟨hr, rfl, rfl, rfl⟩
/-- the first that is otherwise -/
def wrE (T : Nat → Int32) (n : Nat) (B : List (Nat × Int32 × Int32)) (k : Nat) : Bool := match B[k]? with
  | some q => decide (¬ (q.1 < n ∧ ans T n q.1 q.2.1 = q.2.2))
  | none => false
def wrg (T : Nat → Int32) (n : Nat) (B : List (Nat × Int32 × Int32)) : Int32 := if fa_first (wrE T n B) B.length < B.length then nI (fa_first (wrE T n B) B.length) else -1
theorem first_at {p : Nat → Bool} {i m : Nat} (h : ∀ j, j < i → p j = false) (hi : p i = true) (him : i < m) : fa_first p m = i := by
  rcases Nat.lt_trichotomy (fa_first p m) i with q | q | q
  · have := fa_first_yes p m (by omega)
    rw [h _ q] at this; cases this
  · exact q
  · have := fa_first_no p m i q
    rw [hi] at this; cases this
theorem first_end {p : Nat → Bool} {m : Nat} (h : ∀ j, j < m → p j = false) : fa_first p m = m := by
  have h1 := fa_first_le p m
  rcases Nat.lt_or_ge (fa_first p m) m with q | q
  · have := fa_first_yes p m q
    rw [h _ q] at this; cases this
  · omega
set_option maxHeartbeats 4000000 in
set_option maxRecDepth 100000 in
theorem c_append (D : Nat → Nat → Int32) (J : Nat → Nat → Int64) (B : List (Nat × Int32 × Int32)) (hB : BookOf D B) (hl : B.length < 20) (r : Nat) (hr : r < 40) (w v : Int32) : FD yX0_append cX0_append 4 none 0 [.ref 109, .int (nI r), .int w, .int v] D J (fun res D' J' => res = none ∧ J' = J ∧ BookOf D' (B ++ [(r, w, v)]) ∧ ∀ a, a ≠ 109 → a ≠ 110 → a ≠ 111 → a ≠ 112 → D' a = D a) := by
  refine FD.of (by decide) rfl (Nat.le_of_ble_eq_true rfl) (fun Post hPost => ?_)
  show FV _ _ _ _ _ _ _ _ _ _ _ _ [_, _, _, _] [] _
  refine fv_aload_n (q := 1) dX0_append_0 rfl rfl ?_
  refine fl_getI (q := 4) dX0_append_1 fX0_21 sh109 rfl rfl ?_
  refine fv_bipush (v := 20) (q := 6) dX0_append_4 (by decide) rfl ?_
  refine fv_icmp_lt (q := 9) 10 dX0_append_6 (by decide) rfl (fun c6 => ?_) (fun c6 => absurd (by rw [hB.1]; exact nI_lt hl (by decide)) c6)
  refine fv_aload_n (q := 11) dX0_append_10 rfl rfl ?_
  refine fl_getR (q := 14) dX0_append_11 fX0_9 sh109 rfl rfl ?_
  refine fv_aload_n (q := 15) dX0_append_14 rfl rfl ?_
  refine fl_getI (q := 18) dX0_append_15 fX0_21 sh109 rfl rfl ?_
  refine fv_iload_n (q := 19) dX0_append_18 rfl rfl ?_
  refine fl_iast (q := 20) B.length dX0_append_19 sh110 (by decide) hB.1 hl rfl ?_
  refine fv_aload_n (q := 21) dX0_append_20 rfl rfl ?_
  refine fl_getR (q := 24) dX0_append_21 fX0_15 sh109 rfl rfl ?_
  refine fv_aload_n (q := 25) dX0_append_24 rfl rfl ?_
  refine fl_getI (q := 28) dX0_append_25 fX0_21 sh109 rfl rfl ?_
  refine fv_iload_n (q := 29) dX0_append_28 rfl rfl ?_
  refine fl_iast (q := 30) B.length dX0_append_29 sh111 (by decide) (by rw [up_n _ _ _ (by decide)]; exact hB.1) hl rfl ?_
  refine fv_aload_n (q := 31) dX0_append_30 rfl rfl ?_
  refine fl_getR (q := 34) dX0_append_31 fX0_18 sh109 rfl rfl ?_
  refine fv_aload_n (q := 35) dX0_append_34 rfl rfl ?_
  refine fl_getI (q := 38) dX0_append_35 fX0_21 sh109 rfl rfl ?_
  refine fv_iload_n (q := 39) dX0_append_38 rfl rfl ?_
  refine fl_iast (q := 40) B.length dX0_append_39 sh112 (by decide) (by rw [up_n _ _ _ (by decide), up_n _ _ _ (by decide)]; exact hB.1) hl rfl ?_
  refine fv_aload_n (q := 41) dX0_append_40 rfl rfl ?_
  refine fv_dup (q := 42) dX0_append_41 rfl rfl ?_
  refine fl_getI (q := 45) dX0_append_42 fX0_21 sh109 rfl rfl ?_
  refine fv_iconst (v := 1) (q := 46) dX0_append_45 (by decide) rfl ?_
  refine fv_iadd (q := 47) dX0_append_46 rfl ?_
  refine fv_top (y := nI (B.length + 1)) (by rw [up_n _ _ _ (by decide), up_n _ _ _ (by decide), up_n _ _ _ (by decide), hB.1]; exact nI_1 _) ?_
  refine fl_putI (q := 50) dX0_append_47 fX0_21 sh109 rfl rfl rfl rfl ?_
  refine fv_vret dX0_append_50 rfl rfl (Nat.le_refl _) ?_
  exact hPost _ _ _ ⟨rfl, rfl, book_push hB hl hr, fun a g0 g1 g2 g3 => by rw [up_n _ _ _ g0, up_n _ _ _ g3, up_n _ _ _ g2, up_n _ _ _ g1]⟩
set_option maxHeartbeats 4000000 in
set_option maxRecDepth 100000 in
theorem c_firstWrong (D : Nat → Nat → Int32) (J : Nat → Nat → Int64) (T : Nat → Int32) (n : Nat) (hT : TabOf D 3 T) (v : VT T n) (hO : OrdOf D 1 T n) (B : List (Nat × Int32 × Int32)) (hB : BookOf D B) : FD yX0_firstWrong cX0_firstWrong 3 (some .int) 5 [.ref 109, .ref 1] D J (fun res D' J' => res = some (.int (wrg T n B)) ∧ J' = J ∧ ∀ a, a ≠ 1 → a ≠ 11 → a ≠ 12 → D' a = D a) := by
  refine FD.of (by decide) rfl (Nat.le_of_ble_eq_true rfl) (fun Post hPost => ?_)
  show FV _ _ _ _ _ _ _ _ _ _ _ _ [_, _, _] [] _
  have h40 := v.2.1
  have hb := len1
  have hl := hB.2.1
  have loop : ∀ i, i ≤ B.length → ∀ E : Nat → Nat → Int32, (∀ a, a ≠ 1 → a ≠ 1 + 10 → a ≠ 1 + 11 → E a = D a) → (∀ j, j < i → wrE T n B j = false) → FV cX0_firstWrong 3 (some .int) yX0_firstWrong.cls yX0_firstWrong.name 5 0 0 Post 0 0 2 [some (.ref 109), some (.ref 1), some (.int (nI i))] [] (lay E J) := by
    refine up_ind (fun i hi ih => ?_)
    intro E hf hno
    have hBE : BookOf E B := hB.of (hf _ (by decide) (by decide) (by decide)) (hf _ (by decide) (by decide) (by decide)) (hf _ (by decide) (by decide) (by decide)) (hf _ (by decide) (by decide) (by decide))
    have hTE : TabOf E 3 T := hT.of (hf _ (by decide) (by decide) (by decide)) (hf _ (by decide) (by decide) (by decide)) (hf _ (by decide) (by decide) (by decide)) (hf _ (by decide) (by decide) (by decide))
    have hOE : OrdOf E 1 T n := hO.of (hf _ (by decide) (by decide) (by decide)) (hf _ (by decide) (by decide) (by decide)) (hf _ (by decide) (by decide) (by decide)) (hf _ (by decide) (by decide) (by decide))
    refine fv_iload_n (q := 3) dX0_firstWrong_2 rfl rfl ?_
    refine fv_aload_n (q := 4) dX0_firstWrong_3 rfl rfl ?_
    refine fl_getI (q := 7) dX0_firstWrong_4 fX0_21 sh109 rfl rfl ?_
    refine fv_top hBE.1 ?_
    refine fv_icmp_ge (q := 10) 59 dX0_firstWrong_7 (by decide) rfl (fun c7 => ?_) (fun c7 => ?_)
    · rw [nI_leI (by omega) (by omega)] at c7
      have hin : i = B.length := by omega
      refine fv_iconst (v := (-1)) (q := 60) dX0_firstWrong_59 (by decide) rfl ?_
      refine fv_iret dX0_firstWrong_60 rfl rfl (Nat.le_refl _) ?_
      refine hPost _ _ _ ⟨?_, rfl, hf⟩
      unfold wrg
      rw [first_end (by rw [← hin]; exact hno), if_neg (Nat.lt_irrefl _)]
    · rw [nI_leI (by omega) (by omega)] at c7
      obtain ⟨⟨r, w, u⟩, hq⟩ : ∃ q, B[i]? = some q := ⟨B[i], List.getElem?_eq_getElem (by omega)⟩
      obtain ⟨q0, q1, q2, q3⟩ := hBE.2.2 i _ hq
      have q0 : r < 40 := q0
      have q1 : E 110 i = nI r := q1
      have q2 : E 111 i = w := q2
      have q3 : E 112 i = u := q3
      refine fv_aload_n (q := 11) dX0_firstWrong_10 rfl rfl ?_
      refine fl_getR (q := 14) dX0_firstWrong_11 fX0_25 hb.len rfl rfl ?_
      refine fv_aload_n (q := 15) dX0_firstWrong_14 rfl rfl ?_
      refine fl_getR (q := 18) dX0_firstWrong_15 fX0_9 sh109 rfl rfl ?_
      refine fv_iload_n (q := 19) dX0_firstWrong_18 rfl rfl ?_
      refine fl_iald (q := 20) _ dX0_firstWrong_19 sh110 (by decide) rfl (by omega) rfl ?_
      refine fv_top q1 ?_
      refine fl_callVi (As := [_]) (q := 23) dX0_firstWrong_20 gX0_31 rfl hb.tab.sh.1 rfl rfl (Nat.le_of_ble_eq_true rfl) rfl (by decide) (c_has 3 tab3 (nI r) E J) ?_
      refine fv_if_eq (q := 26) 51 dX0_firstWrong_23 (by decide) rfl (fun c23 => ?_) (fun c23 => ?_)
      · rw [bi_0, show E 3 3 = nI n from hTE.n v] at c23
        have hrn : ¬ r < n := fun z => by
          have z2 := nI_lt z (by omega)
          simp [nI_pos (show r < 2 ^ 31 by omega), z2] at c23
        have hwr : wrE T n B i = true := by unfold wrE; rw [hq]; simp [hrn]
        refine fv_iload_n (q := 52) dX0_firstWrong_51 rfl rfl ?_
        refine fv_iret dX0_firstWrong_52 rfl rfl (Nat.le_refl _) ?_
        refine hPost _ _ _ ⟨?_, rfl, hf⟩
        unfold wrg
        rw [first_at hno hwr (by omega), if_pos (by omega)]
      · rw [bi_n', show E 3 3 = nI n from hTE.n v] at c23
        have hrn : r < n := by
          simp only [Bool.and_eq_true, decide_eq_true_eq] at c23
          exact (nI_ltI (by omega) (by omega)).mp c23.2
        refine fv_aload_n (q := 27) dX0_firstWrong_26 rfl rfl ?_
        refine fv_aload_n (q := 28) dX0_firstWrong_27 rfl rfl ?_
        refine fl_getR (q := 31) dX0_firstWrong_28 fX0_9 sh109 rfl rfl ?_
        refine fv_iload_n (q := 32) dX0_firstWrong_31 rfl rfl ?_
        refine fl_iald (q := 33) _ dX0_firstWrong_32 sh110 (by decide) rfl (by omega) rfl ?_
        refine fv_top q1 ?_
        refine fv_aload_n (q := 34) dX0_firstWrong_33 rfl rfl ?_
        refine fl_getR (q := 37) dX0_firstWrong_34 fX0_15 sh109 rfl rfl ?_
        refine fv_iload_n (q := 38) dX0_firstWrong_37 rfl rfl ?_
        refine fl_iald (q := 39) _ dX0_firstWrong_38 sh111 (by decide) rfl (by omega) rfl ?_
        refine fv_top q2 ?_
        refine fl_callV (As := [_, _]) (q := 42) dX0_firstWrong_39 gX0_37 rfl hb.len rfl rfl (Nat.le_of_ble_eq_true rfl) rfl (by decide) (c_answer 1 len1 E J T n hTE v hOE r hrn w) (fun res D1 J1 hp => ?_)
        obtain ⟨rfl, rfl, hf2⟩ := hp
        refine fv_aload_n (q := 43) dX0_firstWrong_42 rfl rfl ?_
        refine fl_getR (q := 46) dX0_firstWrong_43 fX0_18 sh109 rfl rfl ?_
        refine fv_iload_n (q := 47) dX0_firstWrong_46 rfl rfl ?_
        refine fl_iald (q := 48) _ dX0_firstWrong_47 sh112 (by decide) rfl (by omega) rfl ?_
        refine fv_top (y := u) (by rw [hf2 _ (by decide) (by decide) (by decide)]; exact q3) ?_
        refine fv_icmp_eq (q := 51) 53 dX0_firstWrong_48 (by decide) rfl (fun c48 => ?_) (fun c48 => ?_)
        · have hwr : wrE T n B i = false := by unfold wrE; rw [hq]; simp [hrn, c48]
          refine fv_iinc (v := _ + 1) (q := 56) (l' := [_, _, _]) dX0_firstWrong_53 rfl rfl (by decide) rfl rfl rfl ?_
          refine fv_goto 2 dX0_firstWrong_56 (by decide) ?_
          rw [nI_1]
          exact ih (by omega) D1 (fun a g0 g1 g2 => by rw [hf2 a g0 g1 g2]; exact hf a g0 g1 g2) (fun j hj => by
            by_cases e : j = i
            · subst e; exact hwr
            · exact hno j (by omega))
        · have hwr : wrE T n B i = true := by unfold wrE; rw [hq]; simp [c48]
          refine fv_iload_n (q := 52) dX0_firstWrong_51 rfl rfl ?_
          refine fv_iret dX0_firstWrong_52 rfl rfl (Nat.le_refl _) ?_
          refine hPost _ _ _ ⟨?_, rfl, fun a g0 g1 g2 => by rw [hf2 a g0 g1 g2]; exact hf a g0 g1 g2⟩
          unfold wrg
          rw [first_at hno hwr (by omega), if_pos (by omega)]
  refine fv_iconst (v := 0) (q := 1) dX0_firstWrong_0 (by decide) rfl ?_
  refine fv_istore_n (i := 2) (q := 2) (l' := [_, _, _]) dX0_firstWrong_1 rfl (by decide) rfl rfl rfl ?_
  exact loop 0 (Nat.zero_le _) D (fun _ _ _ _ => rfl) (fun j hj => absurd hj (Nat.not_lt_zero _))
