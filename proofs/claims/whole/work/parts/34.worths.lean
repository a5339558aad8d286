set_option maxHeartbeats 4000000 in
set_option maxRecDepth 100000 in
theorem c_sumSeen (b : Nat) (hb : LenIx b) (D : Nat → Nat → Int32) (J : Nat → Nat → Int64) (L : List Nat) (W : List Int32) (hS : LenS D b L W) (hW : W.length ≤ 40) : FI yX3_sumSeen cX3_sumSeen 3 (some .int) 0 [.ref b] D J (smL W) := by
  refine FI.of (by decide) rfl (Nat.le_of_ble_eq_true rfl) (fun Post hPost => ?_)
  show FV _ _ _ _ _ _ _ _ _ _ _ _ [_, _, _] [] _
  have loop : ∀ i, i ≤ W.length → FV cX3_sumSeen 3 (some .int) yX3_sumSeen.cls yX3_sumSeen.name 0 0 0 Post 0 0 4 [some (.ref b), some (.int (smL (W.take i))), some (.int (nI i))] [] (lay D J) := by
    refine up_ind (fun i hi ih => ?_)
    refine fv_iload_n (q := 5) dX3_sumSeen_4 rfl rfl ?_
    refine fv_aload_n (q := 6) dX3_sumSeen_5 rfl rfl ?_
    refine fl_getI (q := 9) dX3_sumSeen_6 fX3_38 hb.len rfl rfl ?_
    refine fv_top (y := nI W.length) hS.2.1 ?_
    refine fv_icmp_ge (q := 12) 27 dX3_sumSeen_9 (by decide) rfl (fun c9 => ?_) (fun c9 => ?_)
    · rw [nI_leI (by omega) (by omega)] at c9
      have hin : i = W.length := by omega
      subst hin
      refine fv_iload_n (q := 28) dX3_sumSeen_27 rfl rfl ?_
      refine fv_iret dX3_sumSeen_28 rfl rfl (Nat.le_refl _) ?_
      exact fi_r hPost (by rw [List.take_length])
    · rw [nI_leI (by omega) (by omega)] at c9
      refine fv_iload_n (q := 13) dX3_sumSeen_12 rfl rfl ?_
      refine fv_aload_n (q := 14) dX3_sumSeen_13 rfl rfl ?_
      refine fl_getR (q := 17) dX3_sumSeen_14 fX3_27 hb.len rfl rfl ?_
      refine fv_iload_n (q := 18) dX3_sumSeen_17 rfl rfl ?_
      refine fl_iald (q := 19) _ dX3_sumSeen_18 hb.arr.2.2.2.2.2.1 (by decide) rfl (by omega) rfl ?_
      refine fv_top (hold_get hS.2.2.2 (by omega) 0) ?_
      refine fv_iadd (q := 20) dX3_sumSeen_19 rfl ?_
      refine fv_top (smL_take W (by omega)).symm ?_
      refine fv_istore_n (i := 1) (q := 21) (l' := [_, _, _]) dX3_sumSeen_20 rfl (by decide) rfl rfl rfl ?_
      refine fv_iinc (v := _ + 1) (q := 24) (l' := [_, _, _]) dX3_sumSeen_21 rfl rfl (by decide) rfl rfl rfl ?_
      refine fv_goto 4 dX3_sumSeen_24 (by decide) ?_
      rw [nI_1]
      exact ih (by omega)
  refine fv_iconst (v := 0) (q := 1) dX3_sumSeen_0 (by decide) rfl ?_
  refine fv_istore_n (i := 1) (q := 2) (l' := [_, _, _]) dX3_sumSeen_1 rfl (by decide) rfl rfl rfl ?_
  refine fv_iconst (v := 0) (q := 3) dX3_sumSeen_2 (by decide) rfl ?_
  refine fv_istore_n (i := 2) (q := 4) (l' := [_, _, _]) dX3_sumSeen_3 rfl (by decide) rfl rfl rfl ?_
  exact loop 0 (Nat.zero_le _)
set_option maxHeartbeats 4000000 in
set_option maxRecDepth 100000 in
theorem c_waI (b : Nat) (hb : LenIx b) (D : Nat → Nat → Int32) (J : Nat → Nat → Int64) (L : List Nat) (W : List Int32) (hS : LenS D b L W) (hW : W.length ≤ 40) (j : Nat) (hj : j < W.length) : FI yX3_worthAt cX3_worthAt 2 (some .int) 0 [.ref b, .int (nI j)] D J (W.getD j 1000000) := by
  refine FI.of (by decide) rfl (Nat.le_of_ble_eq_true rfl) (fun Post hPost => ?_)
  show FV _ _ _ _ _ _ _ _ _ _ _ _ [_, _] [] _
  refine fv_iload_n (q := 1) dX3_worthAt_0 rfl rfl ?_
  refine fv_if_lt (q := 4) 21 dX3_worthAt_1 (by decide) rfl (fun c1 => absurd c1 (nI_pos (by omega))) (fun c1 => ?_)
  refine fv_iload_n (q := 5) dX3_worthAt_4 rfl rfl ?_
  refine fv_aload_n (q := 6) dX3_worthAt_5 rfl rfl ?_
  refine fl_getI (q := 9) dX3_worthAt_6 fX3_38 hb.len rfl rfl ?_
  refine fv_top (y := nI W.length) hS.2.1 ?_
  refine fv_icmp_ge (q := 12) 21 dX3_worthAt_9 (by decide) rfl (fun c9 => absurd c9 (nI_ge hj (by omega))) (fun c9 => ?_)
  refine fv_aload_n (q := 13) dX3_worthAt_12 rfl rfl ?_
  refine fl_getR (q := 16) dX3_worthAt_13 fX3_27 hb.len rfl rfl ?_
  refine fv_iload_n (q := 17) dX3_worthAt_16 rfl rfl ?_
  refine fl_iald (q := 18) _ dX3_worthAt_17 hb.arr.2.2.2.2.2.1 (by decide) rfl (by omega) rfl ?_
  refine fv_goto 23 dX3_worthAt_18 (by decide) ?_
  refine fv_iret dX3_worthAt_23 rfl rfl (Nat.le_refl _) ?_
  exact fi_r hPost (hold_get hS.2.2.2 hj _)
set_option maxHeartbeats 4000000 in
set_option maxRecDepth 100000 in
theorem c_waO (b : Nat) (hb : LenIx b) (D : Nat → Nat → Int32) (J : Nat → Nat → Int64) (L : List Nat) (W : List Int32) (hS : LenS D b L W) (k : Int32) (hk : k < 0 ∨ nI W.length ≤ k) : FI yX3_worthAt cX3_worthAt 2 (some .int) 0 [.ref b, .int k] D J 1000000 := by
  refine FI.of (by decide) rfl (Nat.le_of_ble_eq_true rfl) (fun Post hPost => ?_)
  show FV _ _ _ _ _ _ _ _ _ _ _ _ [_, _] [] _
  refine fv_iload_n (q := 1) dX3_worthAt_0 rfl rfl ?_
  refine fv_if_lt (q := 4) 21 dX3_worthAt_1 (by decide) rfl (fun c1 => ?_) (fun c1 => ?_)
  · refine fv_ldc (q := 23) dX3_worthAt_21 kX3_92 rfl ?_
    refine fv_iret dX3_worthAt_23 rfl rfl (Nat.le_refl _) ?_
    exact hPost
  · refine fv_iload_n (q := 5) dX3_worthAt_4 rfl rfl ?_
    refine fv_aload_n (q := 6) dX3_worthAt_5 rfl rfl ?_
    refine fl_getI (q := 9) dX3_worthAt_6 fX3_38 hb.len rfl rfl ?_
    refine fv_top (y := nI W.length) hS.2.1 ?_
    refine fv_icmp_ge (q := 12) 21 dX3_worthAt_9 (by decide) rfl (fun c9 => ?_) (fun c9 => absurd (by rcases hk with h | h; exact absurd h c1; exact h) c9)
    refine fv_ldc (q := 23) dX3_worthAt_21 kX3_92 rfl ?_
    refine fv_iret dX3_worthAt_23 rfl rfl (Nat.le_refl _) ?_
    exact hPost
theorem mapD {L : List Nat} {f : Nat → Int32} {j : Nat} {z : Int32} (hj : j < L.length) : (L.map f).getD j z = f (L.getD j 0) := by
  rw [List.getD_eq_getElem?_getD, List.getD_eq_getElem?_getD, List.getElem?_map, List.getElem?_eq_getElem hj]; rfl
theorem getD_mem {L : List Nat} {j z : Nat} (hj : j < L.length) : L.getD j z ∈ L := by
  rw [List.getD_eq_getElem?_getD, List.getElem?_eq_getElem hj]; exact List.getElem_mem hj
set_option maxHeartbeats 4000000 in
set_option maxRecDepth 100000 in
theorem c_wosI (b : Nat) (hb : LenIx b) (D : Nat → Nat → Int32) (J : Nat → Nat → Int64) (T : Nat → Int32) (n : Nat) (hT : TabOf D (b + 2) T) (v : VT T n) (L : List Nat) (W : List Int32) (hS : LenS D b L W) (hL : L.length ≤ 40) (hx : ∀ x, x ∈ L → x < n) (j : Nat) (hj : j < L.length) : FI yX3_worthOfSeen cX3_worthOfSeen 2 (some .int) 0 [.ref b, .int (nI j)] D J ((L.map (wo T)).getD j 1000000) := by
  refine FI.of (by decide) rfl (Nat.le_of_ble_eq_true rfl) (fun Post hPost => ?_)
  show FV _ _ _ _ _ _ _ _ _ _ _ _ [_, _] [] _
  have h40 := v.2.1
  have hm := hx _ (getD_mem (z := 0) hj)
  refine fv_iload_n (q := 1) dX3_worthOfSeen_0 rfl rfl ?_
  refine fv_if_lt (q := 4) 29 dX3_worthOfSeen_1 (by decide) rfl (fun c1 => absurd c1 (nI_pos (by omega))) (fun c1 => ?_)
  refine fv_iload_n (q := 5) dX3_worthOfSeen_4 rfl rfl ?_
  refine fv_aload_n (q := 6) dX3_worthOfSeen_5 rfl rfl ?_
  refine fl_getI (q := 9) dX3_worthOfSeen_6 fX3_34 hb.len rfl rfl ?_
  refine fv_top (y := nI L.length) hS.1 ?_
  refine fv_icmp_ge (q := 12) 29 dX3_worthOfSeen_9 (by decide) rfl (fun c9 => absurd c9 (nI_ge hj (by omega))) (fun c9 => ?_)
  refine fv_aload_n (q := 13) dX3_worthOfSeen_12 rfl rfl ?_
  refine fl_getR (q := 16) dX3_worthOfSeen_13 fX3_22 hb.len rfl rfl ?_
  refine fl_getR (q := 19) dX3_worthOfSeen_16 fX3_99 hb.tab.sh.1 rfl rfl ?_
  refine fv_aload_n (q := 20) dX3_worthOfSeen_19 rfl rfl ?_
  refine fl_getR (q := 23) dX3_worthOfSeen_20 fX3_23 hb.len rfl rfl ?_
  refine fv_iload_n (q := 24) dX3_worthOfSeen_23 rfl rfl ?_
  refine fl_iald (q := 25) _ dX3_worthOfSeen_24 hb.arr.2.2.2.2.1 (by decide) rfl (by omega) rfl ?_
  refine fv_top (holN_get hS.2.2.1 hj 0) ?_
  refine fl_iald (q := 26) _ dX3_worthOfSeen_25 hb.tab.sh.2.2.2 (by decide) rfl (by omega) rfl ?_
  refine fv_goto 31 dX3_worthOfSeen_26 (by decide) ?_
  refine fv_iret dX3_worthOfSeen_31 rfl rfl (Nat.le_refl _) ?_
  exact fi_r hPost (by rw [mapD hj]; exact hT.2.2.2 _ (by omega))
set_option maxHeartbeats 4000000 in
set_option maxRecDepth 100000 in
theorem c_wosO (b : Nat) (hb : LenIx b) (D : Nat → Nat → Int32) (J : Nat → Nat → Int64) (L : List Nat) (W : List Int32) (hS : LenS D b L W) (k : Int32) (hk : k < 0 ∨ nI L.length ≤ k) : FI yX3_worthOfSeen cX3_worthOfSeen 2 (some .int) 0 [.ref b, .int k] D J 1000000 := by
  refine FI.of (by decide) rfl (Nat.le_of_ble_eq_true rfl) (fun Post hPost => ?_)
  show FV _ _ _ _ _ _ _ _ _ _ _ _ [_, _] [] _
  refine fv_iload_n (q := 1) dX3_worthOfSeen_0 rfl rfl ?_
  refine fv_if_lt (q := 4) 29 dX3_worthOfSeen_1 (by decide) rfl (fun c1 => ?_) (fun c1 => ?_)
  · refine fv_ldc (q := 31) dX3_worthOfSeen_29 kX3_92 rfl ?_
    refine fv_iret dX3_worthOfSeen_31 rfl rfl (Nat.le_refl _) ?_
    exact hPost
  · refine fv_iload_n (q := 5) dX3_worthOfSeen_4 rfl rfl ?_
    refine fv_aload_n (q := 6) dX3_worthOfSeen_5 rfl rfl ?_
    refine fl_getI (q := 9) dX3_worthOfSeen_6 fX3_34 hb.len rfl rfl ?_
    refine fv_top (y := nI L.length) hS.1 ?_
    refine fv_icmp_ge (q := 12) 29 dX3_worthOfSeen_9 (by decide) rfl (fun c9 => ?_) (fun c9 => absurd (by rcases hk with h | h; exact absurd h c1; exact h) c9)
    refine fv_ldc (q := 31) dX3_worthOfSeen_29 kX3_92 rfl ?_
    refine fv_iret dX3_worthOfSeen_31 rfl rfl (Nat.le_refl _) ?_
    exact hPost
set_option maxHeartbeats 4000000 in
set_option maxRecDepth 100000 in
theorem c_unlikeWorths (b : Nat) (hb : LenIx b) (D : Nat → Nat → Int32) (J : Nat → Nat → Int64) (L : List Nat) (W : List Int32) (hS : LenS D b L W) (hW : W.length ≤ 40) : FI yX3_unlikeWorths cX3_unlikeWorths 3 (some .int) 0 [.ref b] D J (nI (ulk W W.length)) := by
  refine FI.of (by decide) rfl (Nat.le_of_ble_eq_true rfl) (fun Post hPost => ?_)
  show FV _ _ _ _ _ _ _ _ _ _ _ _ [_, _, _] [] _
  have loop : ∀ i, i ≤ W.length → FV cX3_unlikeWorths 3 (some .int) yX3_unlikeWorths.cls yX3_unlikeWorths.name 0 0 0 Post 0 0 4 [some (.ref b), some (.int (nI (fb_ct (fun i => decide (i = 0 ∨ ¬ W.getD i 0 = W.getD (i - 1) 0)) i))), some (.int (nI i))] [] (lay D J) := by
    refine up_ind (fun i hi ih => ?_)
    refine fv_iload_n (q := 5) dX3_unlikeWorths_4 rfl rfl ?_
    refine fv_aload_n (q := 6) dX3_unlikeWorths_5 rfl rfl ?_
    refine fl_getI (q := 9) dX3_unlikeWorths_6 fX3_38 hb.len rfl rfl ?_
    refine fv_top (y := nI W.length) hS.2.1 ?_
    refine fv_icmp_ge (q := 12) 42 dX3_unlikeWorths_9 (by decide) rfl (fun c9 => ?_) (fun c9 => ?_)
    · rw [nI_leI (by omega) (by omega)] at c9
      have hin : i = W.length := by omega
      subst hin
      refine fv_iload_n (q := 43) dX3_unlikeWorths_42 rfl rfl ?_
      refine fv_iret dX3_unlikeWorths_43 rfl rfl (Nat.le_refl _) ?_
      exact hPost
    · rw [nI_leI (by omega) (by omega)] at c9
      refine fv_iload_n (q := 13) dX3_unlikeWorths_12 rfl rfl ?_
      refine fv_if_eq (q := 16) 33 dX3_unlikeWorths_13 (by decide) rfl (fun c13 => ?_) (fun c13 => ?_)
      · rw [nI_z (by omega)] at c13
        refine fv_iinc (v := _ + 1) (q := 36) (l' := [_, _, _]) dX3_unlikeWorths_33 rfl rfl (by decide) rfl rfl rfl ?_
        refine fv_iinc (v := _ + 1) (q := 39) (l' := [_, _, _]) dX3_unlikeWorths_36 rfl rfl (by decide) rfl rfl rfl ?_
        refine fv_goto 4 dX3_unlikeWorths_39 (by decide) ?_
        have hp : (fun i => decide (i = 0 ∨ ¬ W.getD i 0 = W.getD (i - 1) 0)) i = true := by simp_all
        have h9 := ih (by omega)
        rw [fb_ct_succ, if_pos hp] at h9
        rw [nI_1, nI_1]
        exact h9
      · rw [nI_z (by omega)] at c13
        obtain ⟨i, rfl⟩ : ∃ k, i = k + 1 := ⟨i - 1, by omega⟩
        refine fv_aload_n (q := 17) dX3_unlikeWorths_16 rfl rfl ?_
        refine fl_getR (q := 20) dX3_unlikeWorths_17 fX3_27 hb.len rfl rfl ?_
        refine fv_iload_n (q := 21) dX3_unlikeWorths_20 rfl rfl ?_
        refine fl_iald (q := 22) _ dX3_unlikeWorths_21 hb.arr.2.2.2.2.2.1 (by decide) rfl (by omega) rfl ?_
        refine fv_top (hold_get hS.2.2.2 (by omega) 0) ?_
        refine fv_aload_n (q := 23) dX3_unlikeWorths_22 rfl rfl ?_
        refine fl_getR (q := 26) dX3_unlikeWorths_23 fX3_27 hb.len rfl rfl ?_
        refine fv_iload_n (q := 27) dX3_unlikeWorths_26 rfl rfl ?_
        refine fv_iconst (v := 1) (q := 28) dX3_unlikeWorths_27 (by decide) rfl ?_
        refine fv_isub (q := 29) dX3_unlikeWorths_28 rfl ?_
        refine fv_top (nI_pred i) ?_
        refine fl_iald (q := 30) _ dX3_unlikeWorths_29 hb.arr.2.2.2.2.2.1 (by decide) rfl (by omega) rfl ?_
        refine fv_top (hold_get hS.2.2.2 (by omega) 0) ?_
        refine fv_icmp_eq (q := 33) 36 dX3_unlikeWorths_30 (by decide) rfl (fun c30 => ?_) (fun c30 => ?_)
        · refine fv_iinc (v := _ + 1) (q := 39) (l' := [_, _, _]) dX3_unlikeWorths_36 rfl rfl (by decide) rfl rfl rfl ?_
          refine fv_goto 4 dX3_unlikeWorths_39 (by decide) ?_
          have hp : ¬ (fun i => decide (i = 0 ∨ ¬ W.getD i 0 = W.getD (i - 1) 0)) (i + 1) = true := by simp_all
          have h9 := ih (by omega)
          rw [fb_ct_succ, if_neg hp, Nat.add_zero] at h9
          rw [nI_1]
          exact h9
        · refine fv_iinc (v := _ + 1) (q := 36) (l' := [_, _, _]) dX3_unlikeWorths_33 rfl rfl (by decide) rfl rfl rfl ?_
          refine fv_iinc (v := _ + 1) (q := 39) (l' := [_, _, _]) dX3_unlikeWorths_36 rfl rfl (by decide) rfl rfl rfl ?_
          refine fv_goto 4 dX3_unlikeWorths_39 (by decide) ?_
          have hp : (fun i => decide (i = 0 ∨ ¬ W.getD i 0 = W.getD (i - 1) 0)) (i + 1) = true := by simp_all
          have h9 := ih (by omega)
          rw [fb_ct_succ, if_pos hp] at h9
          rw [nI_1, nI_1]
          exact h9
  refine fv_iconst (v := 0) (q := 1) dX3_unlikeWorths_0 (by decide) rfl ?_
  refine fv_istore_n (i := 1) (q := 2) (l' := [_, _, _]) dX3_unlikeWorths_1 rfl (by decide) rfl rfl rfl ?_
  refine fv_iconst (v := 0) (q := 3) dX3_unlikeWorths_2 (by decide) rfl ?_
  refine fv_istore_n (i := 2) (q := 4) (l' := [_, _, _]) dX3_unlikeWorths_3 rfl (by decide) rfl rfl rfl ?_
  exact loop 0 (Nat.zero_le _)
set_option maxHeartbeats 4000000 in
set_option maxRecDepth 100000 in
theorem c_sortWorths (b : Nat) (hb : LenIx b) (D : Nat → Nat → Int32) (J : Nat → Nat → Int64) (L : List Nat) (W : List Int32) (hS : LenS D b L W) (hW : W.length ≤ 40) : FD yX3_sortWorths cX3_sortWorths 4 none 0 [.ref b] D J (fun res D' J' => res = none ∧ J' = J ∧ LenS D' b L (srt W) ∧ ∀ a, a ≠ b + 11 → D' a = D a) := by
  refine FD.of (by decide) rfl (Nat.le_of_ble_eq_true rfl) (fun Post hPost => ?_)
  show FV _ _ _ _ _ _ _ _ _ _ _ _ [_, _, _, _] [] _
  have zero : W.length = 0 → FV cX3_sortWorths 4 none yX3_sortWorths.cls yX3_sortWorths.name 0 0 0 Post 0 0 2 [some (.ref b), some (.int 1), none, none] [] (lay D J) := by
    intro h0
    refine fv_iload_n (q := 3) dX3_sortWorths_2 rfl rfl ?_
    refine fv_aload_n (q := 4) dX3_sortWorths_3 rfl rfl ?_
    refine fl_getI (q := 7) dX3_sortWorths_4 fX3_38 hb.len rfl rfl ?_
    refine fv_top (y := nI W.length) hS.2.1 ?_
    refine fv_icmp_ge (q := 10) 68 dX3_sortWorths_7 (by decide) rfl (fun c7 => ?_) (fun c7 => absurd (by rw [h0]; decide) c7)
    refine fv_vret dX3_sortWorths_68 rfl rfl (Nat.le_refl _) ?_
    exact hPost _ _ _ ⟨rfl, rfl, ⟨hS.1, by rw [srt_len]; exact hS.2.1, hS.2.2.1, by rw [List.length_eq_zero_iff.mp h0]; exact hold_nil _⟩, fun _ _ => rfl⟩
  have outer : ∀ i, i ≤ W.length → 1 ≤ i → ∀ (l2 l3 : Option Value) (E : Nat → Nat → Int32), (∀ a, a ≠ b + 11 → E a = D a) → hold (E (b + 11)) (srt (W.take i)) → (∀ j, i ≤ j → (h : j < W.length) → E (b + 11) j = W[j]) → FV cX3_sortWorths 4 none yX3_sortWorths.cls yX3_sortWorths.name 0 0 0 Post 0 0 2 [some (.ref b), some (.int (nI i)), l2, l3] [] (lay E J) := by
    refine up_ind (fun i hi ih => ?_)
    intro hi1 l2 l3 E0 hfE hp hrest
    have hfE0 := hfE
    have fin : (hiW : i < W.length) → ∀ k, k ≤ i → ∀ E : Nat → Nat → Int32, (∀ a, a ≠ b + 11 → E a = D a) → ivI (srt (W.take i)) i k (E0 (b + 11)) (E (b + 11)) → k = stp (srt (W.take i)) W[i] i → FV cX3_sortWorths 4 none yX3_sortWorths.cls yX3_sortWorths.name 0 0 0 Post 0 0 55 [some (.ref b), some (.int (nI i)), some (.int W[i]), some (.int (nI k))] [] (lay E J) := by
      intro hiW k hki E hfE hv hk
      have hx : W[i] = W[i] := rfl
      refine fv_aload_n (q := 56) dX3_sortWorths_55 rfl rfl ?_
      refine fl_getR (q := 59) dX3_sortWorths_56 fX3_27 hb.len rfl rfl ?_
      refine fv_iload_n (q := 60) dX3_sortWorths_59 rfl rfl ?_
      refine fv_iload_n (q := 61) dX3_sortWorths_60 rfl rfl ?_
      refine fl_iast (q := 62) k dX3_sortWorths_61 hb.arr.2.2.2.2.2.1 (by decide) rfl (by omega) rfl ?_
      refine fv_iinc (v := _ + 1) (q := 65) (l' := [_, _, _, _]) dX3_sortWorths_62 rfl rfl (by decide) rfl rfl rfl ?_
      refine fv_goto 2 dX3_sortWorths_65 (by decide) ?_
      rw [nI_1]
      obtain ⟨h1, h2⟩ := ivI_e hv (by rw [srt_len, List.length_take]; omega) hk
      refine ih (by omega) (by omega) _ _ _ (fun a ha => by rw [up_n _ _ _ ha]; exact hfE a ha) ?_ (fun j hj => ?_)
      · rw [up_s, List.take_succ_eq_append_getElem hiW, srt_push, ← hx]; exact h1
      · rw [up_s, h2 j (by omega)]; exact hrest j (by omega)
    have inner : (hiW : i < W.length) → ∀ k, k ≤ i → ∀ E : Nat → Nat → Int32, (∀ a, a ≠ b + 11 → E a = D a) → ivI (srt (W.take i)) i k (E0 (b + 11)) (E (b + 11)) → stp (srt (W.take i)) W[i] i = stp (srt (W.take i)) W[i] k → FV cX3_sortWorths 4 none yX3_sortWorths.cls yX3_sortWorths.name 0 0 0 Post 0 0 19 [some (.ref b), some (.int (nI i)), some (.int W[i]), some (.int (nI k))] [] (lay E J) := by
      intro hiW
      refine dn_ind (fun k ih2 => ?_)
      intro hki E hfE hv hstp
      refine fv_iload_n (q := 20) dX3_sortWorths_19 rfl rfl ?_
      refine fv_if_le (q := 23) 55 dX3_sortWorths_20 (by decide) rfl (fun c20 => ?_) (fun c20 => ?_)
      · have hk0 : k = 0 := by rcases Nat.eq_zero_or_pos k with q | q; exact q; exact absurd c20 (nI_nle q (by omega))
        exact fin hiW _ (by omega) _ hfE hv (by rw [hstp, hk0]; rfl)
      · obtain ⟨k, rfl⟩ := nI_sp c20
        refine fv_aload_n (q := 24) dX3_sortWorths_23 rfl rfl ?_
        refine fl_getR (q := 27) dX3_sortWorths_24 fX3_27 hb.len rfl rfl ?_
        refine fv_iload_n (q := 28) dX3_sortWorths_27 rfl rfl ?_
        refine fv_iconst (v := 1) (q := 29) dX3_sortWorths_28 (by decide) rfl ?_
        refine fv_isub (q := 30) dX3_sortWorths_29 rfl ?_
        refine fv_top (nI_pred k) ?_
        refine fl_iald (q := 31) _ dX3_sortWorths_30 hb.arr.2.2.2.2.2.1 (by decide) rfl (by omega) rfl ?_
        refine fv_top (hv.1 k (by omega)) ?_
        refine fv_iload_n (q := 32) dX3_sortWorths_31 rfl rfl ?_
        refine fv_icmp_le (q := 35) 55 dX3_sortWorths_32 (by decide) rfl (fun c32 => ?_) (fun c32 => ?_)
        · exact fin hiW _ (by omega) _ hfE hv (by rw [hstp, stp, if_neg (Int32.not_lt.mpr c32)])
        · refine fv_aload_n (q := 36) dX3_sortWorths_35 rfl rfl ?_
          refine fl_getR (q := 39) dX3_sortWorths_36 fX3_27 hb.len rfl rfl ?_
          refine fv_iload_n (q := 40) dX3_sortWorths_39 rfl rfl ?_
          refine fv_aload_n (q := 41) dX3_sortWorths_40 rfl rfl ?_
          refine fl_getR (q := 44) dX3_sortWorths_41 fX3_27 hb.len rfl rfl ?_
          refine fv_iload_n (q := 45) dX3_sortWorths_44 rfl rfl ?_
          refine fv_iconst (v := 1) (q := 46) dX3_sortWorths_45 (by decide) rfl ?_
          refine fv_isub (q := 47) dX3_sortWorths_46 rfl ?_
          refine fv_top (nI_pred k) ?_
          refine fl_iald (q := 48) _ dX3_sortWorths_47 hb.arr.2.2.2.2.2.1 (by decide) rfl (by omega) rfl ?_
          refine fl_iast (q := 49) _ dX3_sortWorths_48 hb.arr.2.2.2.2.2.1 (by decide) rfl (by omega) rfl ?_
          refine fv_iinc (v := _ + (-1)) (q := 52) (l' := [_, _, _, _]) dX3_sortWorths_49 rfl rfl (by decide) rfl rfl rfl ?_
          refine fv_goto 19 dX3_sortWorths_52 (by decide) ?_
          rw [pk_m1]
          refine ih2 (by omega) (by omega) _ (fun a ha => by rw [up_n _ _ _ ha]; exact hfE a ha) ?_ ?_
          · rw [up_s]; exact ivI_s hv (by omega)
          · rw [hstp, stp, if_pos (Int32.not_le.mp c32)]; rfl
    refine fv_iload_n (q := 3) dX3_sortWorths_2 rfl rfl ?_
    refine fv_aload_n (q := 4) dX3_sortWorths_3 rfl rfl ?_
    refine fl_getI (q := 7) dX3_sortWorths_4 fX3_38 hb.len rfl rfl ?_
    refine fv_top (y := nI W.length) (by rw [hfE _ (by omega)]; exact hS.2.1) ?_
    refine fv_icmp_ge (q := 10) 68 dX3_sortWorths_7 (by decide) rfl (fun c7 => ?_) (fun c7 => ?_)
    · rw [nI_leI (by omega) (by omega)] at c7
      have hin : i = W.length := by omega
      subst hin
      refine fv_vret dX3_sortWorths_68 rfl rfl (Nat.le_refl _) ?_
      rw [List.take_length] at hp
      exact hPost _ _ _ ⟨rfl, rfl, ⟨by rw [hfE _ (by omega)]; exact hS.1, by rw [hfE _ (by omega), srt_len]; exact hS.2.1, by rw [hfE _ (by omega)]; exact hS.2.2.1, hp⟩, hfE⟩
    · rw [nI_leI (by omega) (by omega)] at c7
      have hiW : i < W.length := by omega
      have hx := hrest i (Nat.le_refl _) hiW
      refine fv_aload_n (q := 11) dX3_sortWorths_10 rfl rfl ?_
      refine fl_getR (q := 14) dX3_sortWorths_11 fX3_27 hb.len rfl rfl ?_
      refine fv_iload_n (q := 15) dX3_sortWorths_14 rfl rfl ?_
      refine fl_iald (q := 16) _ dX3_sortWorths_15 hb.arr.2.2.2.2.2.1 (by decide) rfl (by omega) rfl ?_
      refine fv_top hx ?_
      refine fv_istore_n (i := 2) (q := 17) (l' := [_, _, _, _]) dX3_sortWorths_16 rfl (by decide) rfl rfl rfl ?_
      refine fv_iload_n (q := 18) dX3_sortWorths_17 rfl rfl ?_
      refine fv_istore_n (i := 3) (q := 19) (l' := [_, _, _, _]) dX3_sortWorths_18 rfl (by decide) rfl rfl rfl ?_
      exact inner hiW i (Nat.le_refl _) _ hfE (ivI_0 hp (by rw [srt_len, List.length_take]; omega)) rfl
  refine fv_iconst (v := 1) (q := 1) dX3_sortWorths_0 (by decide) rfl ?_
  refine fv_istore_n (i := 1) (q := 2) (l' := [_, _, _, _]) dX3_sortWorths_1 rfl (by decide) rfl rfl rfl ?_
  rcases Nat.eq_zero_or_pos W.length with h0 | h0
  · exact zero h0
  · refine outer 1 h0 (Nat.le_refl _) _ _ D (fun _ _ => rfl) ?_ (fun j hj h => ?_)
    · intro j x hj
      obtain ⟨y, W', rfl⟩ : ∃ y W', W = y :: W' := by
        cases W with
        | nil => simp at h0
        | cons y W' => exact ⟨y, W', rfl⟩
      have e : srt ((y :: W').take 1) = [y] := rfl
      rw [e] at hj
      have hj0 : j < 1 := (List.getElem?_eq_some_iff.mp hj).1
      obtain rfl : j = 0 := by omega
      have : y = x := by simpa using hj
      subst this
      exact hS.2.2.2 0 y rfl
    · exact hS.2.2.2 j _ (List.getElem?_eq_getElem h)
