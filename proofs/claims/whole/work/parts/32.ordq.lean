theorem nI_z {m : Nat} (h : m < 2 ^ 31) : nI m = 0 ↔ m = 0 := by
  rw [← nI_0, nI_eq h (by decide)]
set_option maxHeartbeats 4000000 in
set_option maxRecDepth 100000 in
theorem c_partsHeld (b : Nat) (hb : LenIx b) (D : Nat → Nat → Int32) (J : Nat → Nat → Int64) (T : Nat → Int32) (n : Nat) (hT : TabOf D (b + 2) T) (v : VT T n) (hO : OrdOf D b T n) : FI yX4_partsHeld cX4_partsHeld 3 (some .int) 0 [.ref (b + 1)] D J (nI (fb_ct (fun r => decide (pos T n r - pf T n r = 0)) n)) := by
  refine FI.of (by decide) rfl (Nat.le_of_ble_eq_true rfl) (fun Post hPost => ?_)
  show FV _ _ _ _ _ _ _ _ _ _ _ _ [_, _, _] [] _
  have h40 := v.2.1
  have loop : ∀ i, i ≤ n → FV cX4_partsHeld 3 (some .int) yX4_partsHeld.cls yX4_partsHeld.name 0 0 0 Post 0 0 4 [some (.ref (b + 1)), some (.int (nI (fb_ct (fun r => decide (pos T n r - pf T n r = 0)) i))), some (.int (nI i))] [] (lay D J) := by
    refine up_ind (fun i hi ih => ?_)
    refine fv_iload_n (q := 5) dX4_partsHeld_4 rfl rfl ?_
    refine fv_aload_n (q := 6) dX4_partsHeld_5 rfl rfl ?_
    refine fl_getR (q := 9) dX4_partsHeld_6 fX4_12 hb.ord rfl rfl ?_
    refine fl_getI (q := 12) dX4_partsHeld_9 fX4_34 hb.tab.sh.1 rfl rfl ?_
    refine fv_top (y := nI n) (hT.n v) ?_
    refine fv_icmp_ge (q := 15) 33 dX4_partsHeld_12 (by decide) rfl (fun c12 => ?_) (fun c12 => ?_)
    · rw [nI_leI (by omega) (by omega)] at c12
      have hin : i = n := by omega
      subst hin
      refine fv_iload_n (q := 34) dX4_partsHeld_33 rfl rfl ?_
      refine fv_iret dX4_partsHeld_34 rfl rfl (Nat.le_refl _) ?_
      exact hPost
    · rw [nI_leI (by omega) (by omega)] at c12
      refine fv_aload_n (q := 16) dX4_partsHeld_15 rfl rfl ?_
      refine fl_getR (q := 19) dX4_partsHeld_16 fX4_25 hb.ord rfl rfl ?_
      refine fv_iload_n (q := 20) dX4_partsHeld_19 rfl rfl ?_
      refine fl_iald (q := 21) _ dX4_partsHeld_20 hb.arr.2.2.1 (by decide) rfl (by omega) rfl ?_
      refine fv_top (hO.2.2.1 i (by omega)) ?_
      have hpp := pos_lt (T := T) (n := n) (r := i) (by omega)
      refine fv_if_ne (q := 24) 27 dX4_partsHeld_21 (by decide) rfl (fun c21 => ?_) (fun c21 => ?_)
      · rw [nI_z (by omega)] at c21
        refine fv_iinc (v := _ + 1) (q := 30) (l' := [_, _, _]) dX4_partsHeld_27 rfl rfl (by decide) rfl rfl rfl ?_
        refine fv_goto 4 dX4_partsHeld_30 (by decide) ?_
        have hp : ¬ (fun r => decide (pos T n r - pf T n r = 0)) i = true := by simpa using c21
        have h9 := ih (by omega)
        rw [fb_ct_succ, if_neg hp, Nat.add_zero] at h9
        rw [nI_1]
        exact h9
      · rw [nI_z (by omega)] at c21
        refine fv_iinc (v := _ + 1) (q := 27) (l' := [_, _, _]) dX4_partsHeld_24 rfl rfl (by decide) rfl rfl rfl ?_
        refine fv_iinc (v := _ + 1) (q := 30) (l' := [_, _, _]) dX4_partsHeld_27 rfl rfl (by decide) rfl rfl rfl ?_
        refine fv_goto 4 dX4_partsHeld_30 (by decide) ?_
        have hp : (fun r => decide (pos T n r - pf T n r = 0)) i = true := by simpa using c21
        have h9 := ih (by omega)
        rw [fb_ct_succ, if_pos hp] at h9
        rw [nI_1, nI_1]
        exact h9
  refine fv_iconst (v := 0) (q := 1) dX4_partsHeld_0 (by decide) rfl ?_
  refine fv_istore_n (i := 1) (q := 2) (l' := [_, _, _]) dX4_partsHeld_1 rfl (by decide) rfl rfl rfl ?_
  refine fv_iconst (v := 0) (q := 3) dX4_partsHeld_2 (by decide) rfl ?_
  refine fv_istore_n (i := 2) (q := 4) (l' := [_, _, _]) dX4_partsHeld_3 rfl (by decide) rfl rfl rfl ?_
  exact loop 0 (Nat.zero_le _)
set_option maxHeartbeats 4000000 in
set_option maxRecDepth 100000 in
theorem c_aheadOfPeers (b : Nat) (hb : LenIx b) (D : Nat → Nat → Int32) (J : Nat → Nat → Int64) (T : Nat → Int32) (n : Nat) (hT : TabOf D (b + 2) T) (v : VT T n) (hO : OrdOf D b T n) (r : Nat) (hr : r < n) : FI yX4_aheadOfPeers cX4_aheadOfPeers 4 (some .int) 0 [.ref (b + 1), .int (nI r)] D J (nI (gf T n r - pf T n r)) := by
  refine FI.of (by decide) rfl (Nat.le_of_ble_eq_true rfl) (fun Post hPost => ?_)
  show FV _ _ _ _ _ _ _ _ _ _ _ _ [_, _, _, _] [] _
  have h40 := v.2.1
  have loop : ∀ i, i ≤ n → FV cX4_aheadOfPeers 4 (some .int) yX4_aheadOfPeers.cls yX4_aheadOfPeers.name 0 0 0 Post 0 0 4 [some (.ref (b + 1)), some (.int (nI r)), some (.int (nI (fb_ct (fun e => decide (pa T e = pa T r) && decide (gr T n e < gr T n r)) i))), some (.int (nI i))] [] (lay D J) := by
    refine up_ind (fun i hi ih => ?_)
    refine fv_iload_n (q := 5) dX4_aheadOfPeers_4 rfl rfl ?_
    refine fv_aload_n (q := 6) dX4_aheadOfPeers_5 rfl rfl ?_
    refine fl_getR (q := 9) dX4_aheadOfPeers_6 fX4_12 hb.ord rfl rfl ?_
    refine fl_getI (q := 12) dX4_aheadOfPeers_9 fX4_34 hb.tab.sh.1 rfl rfl ?_
    refine fv_top (y := nI n) (hT.n v) ?_
    refine fv_icmp_ge (q := 15) 60 dX4_aheadOfPeers_12 (by decide) rfl (fun c12 => ?_) (fun c12 => ?_)
    · rw [nI_leI (by omega) (by omega)] at c12
      have hin : i = n := by omega
      subst hin
      refine fv_iload_n (q := 61) dX4_aheadOfPeers_60 rfl rfl ?_
      refine fv_iret dX4_aheadOfPeers_61 rfl rfl (Nat.le_refl _) ?_
      exact fi_r hPost (by rw [gf_pf v hr, Nat.add_sub_cancel_left])
    · rw [nI_leI (by omega) (by omega)] at c12
      refine fv_aload_n (q := 16) dX4_aheadOfPeers_15 rfl rfl ?_
      refine fl_getR (q := 19) dX4_aheadOfPeers_16 fX4_12 hb.ord rfl rfl ?_
      refine fl_getR (q := 22) dX4_aheadOfPeers_19 fX4_42 hb.tab.sh.1 rfl rfl ?_
      refine fv_iload_n (q := 23) dX4_aheadOfPeers_22 rfl rfl ?_
      refine fl_iald (q := 24) _ dX4_aheadOfPeers_23 hb.tab.sh.2.1 (by decide) rfl (by omega) rfl ?_
      refine fv_top (hT.2.1 i (by omega)) ?_
      refine fv_aload_n (q := 25) dX4_aheadOfPeers_24 rfl rfl ?_
      refine fl_getR (q := 28) dX4_aheadOfPeers_25 fX4_12 hb.ord rfl rfl ?_
      refine fl_getR (q := 31) dX4_aheadOfPeers_28 fX4_42 hb.tab.sh.1 rfl rfl ?_
      refine fv_iload_n (q := 32) dX4_aheadOfPeers_31 rfl rfl ?_
      refine fl_iald (q := 33) _ dX4_aheadOfPeers_32 hb.tab.sh.2.1 (by decide) rfl (by omega) rfl ?_
      refine fv_top (hT.2.1 r (by omega)) ?_
      refine fv_icmp_ne (q := 36) 54 dX4_aheadOfPeers_33 (by decide) rfl (fun c33 => ?_) (fun c33 => ?_)
      · refine fv_iinc (v := _ + 1) (q := 57) (l' := [_, _, _, _]) dX4_aheadOfPeers_54 rfl rfl (by decide) rfl rfl rfl ?_
        refine fv_goto 4 dX4_aheadOfPeers_57 (by decide) ?_
        have hp : ¬ (fun e => decide (pa T e = pa T r) && decide (gr T n e < gr T n r)) i = true := by simp [c33]
        have h9 := ih (by omega)
        rw [fb_ct_succ, if_neg hp, Nat.add_zero] at h9
        rw [nI_1]
        exact h9
      · refine fv_aload_n (q := 37) dX4_aheadOfPeers_36 rfl rfl ?_
        refine fl_getR (q := 40) dX4_aheadOfPeers_37 fX4_28 hb.ord rfl rfl ?_
        refine fv_iload_n (q := 41) dX4_aheadOfPeers_40 rfl rfl ?_
        refine fl_iald (q := 42) _ dX4_aheadOfPeers_41 hb.arr.2.2.2.1 (by decide) rfl (by omega) rfl ?_
        refine fv_top (hO.2.2.2 i (by omega)) ?_
        refine fv_aload_n (q := 43) dX4_aheadOfPeers_42 rfl rfl ?_
        refine fl_getR (q := 46) dX4_aheadOfPeers_43 fX4_28 hb.ord rfl rfl ?_
        refine fv_iload_n (q := 47) dX4_aheadOfPeers_46 rfl rfl ?_
        refine fl_iald (q := 48) _ dX4_aheadOfPeers_47 hb.arr.2.2.2.1 (by decide) rfl (by omega) rfl ?_
        refine fv_top (hO.2.2.2 r (by omega)) ?_
        have g1 : gr T n i < 2 ^ 31 := Nat.lt_of_le_of_lt (grk_le T n _) (by have := pos_lt (T := T) (n := n) (r := i) (by omega); omega)
        have g2 : gr T n r < 2 ^ 31 := Nat.lt_of_le_of_lt (grk_le T n _) (by have := pos_lt (T := T) hr; omega)
        refine fv_icmp_ge (q := 51) 54 dX4_aheadOfPeers_48 (by decide) rfl (fun c48 => ?_) (fun c48 => ?_)
        · rw [nI_leI g2 g1] at c48
          refine fv_iinc (v := _ + 1) (q := 57) (l' := [_, _, _, _]) dX4_aheadOfPeers_54 rfl rfl (by decide) rfl rfl rfl ?_
          refine fv_goto 4 dX4_aheadOfPeers_57 (by decide) ?_
          have hp : ¬ (fun e => decide (pa T e = pa T r) && decide (gr T n e < gr T n r)) i = true := by simp [c33]; omega
          have h9 := ih (by omega)
          rw [fb_ct_succ, if_neg hp, Nat.add_zero] at h9
          rw [nI_1]
          exact h9
        · rw [nI_leI g2 g1] at c48
          refine fv_iinc (v := _ + 1) (q := 54) (l' := [_, _, _, _]) dX4_aheadOfPeers_51 rfl rfl (by decide) rfl rfl rfl ?_
          refine fv_iinc (v := _ + 1) (q := 57) (l' := [_, _, _, _]) dX4_aheadOfPeers_54 rfl rfl (by decide) rfl rfl rfl ?_
          refine fv_goto 4 dX4_aheadOfPeers_57 (by decide) ?_
          have hp : (fun e => decide (pa T e = pa T r) && decide (gr T n e < gr T n r)) i = true := by simp [c33]; omega
          have h9 := ih (by omega)
          rw [fb_ct_succ, if_pos hp] at h9
          rw [nI_1, nI_1]
          exact h9
  refine fv_iconst (v := 0) (q := 1) dX4_aheadOfPeers_0 (by decide) rfl ?_
  refine fv_istore_n (i := 2) (q := 2) (l' := [_, _, _, _]) dX4_aheadOfPeers_1 rfl (by decide) rfl rfl rfl ?_
  refine fv_iconst (v := 0) (q := 3) dX4_aheadOfPeers_2 (by decide) rfl ?_
  refine fv_istore_n (i := 3) (q := 4) (l' := [_, _, _, _]) dX4_aheadOfPeers_3 rfl (by decide) rfl rfl rfl ?_
  exact loop 0 (Nat.zero_le _)
set_option maxHeartbeats 4000000 in
set_option maxRecDepth 100000 in
theorem c_peersOf (b : Nat) (hb : LenIx b) (D : Nat → Nat → Int32) (J : Nat → Nat → Int64) (T : Nat → Int32) (n : Nat) (hT : TabOf D (b + 2) T) (v : VT T n) (hO : OrdOf D b T n) (r : Nat) (hr : r < n) : FI yX4_peersOf cX4_peersOf 4 (some .int) 1 [.ref (b + 1), .int (nI r)] D J (nI (gm T n r)) := by
  refine FI.of (by decide) rfl (Nat.le_of_ble_eq_true rfl) (fun Post hPost => ?_)
  show FV _ _ _ _ _ _ _ _ _ _ _ _ [_, _, _, _] [] _
  have h40 := v.2.1
  have loop : ∀ i, i ≤ n → FV cX4_peersOf 4 (some .int) yX4_peersOf.cls yX4_peersOf.name 1 0 0 Post 0 0 4 [some (.ref (b + 1)), some (.int (nI r)), some (.int (nI (fb_ct (fun e => decide (pa T e = pa T r) && decide (ke T e = ke T r)) i))), some (.int (nI i))] [] (lay D J) := by
    refine up_ind (fun i hi ih => ?_)
    refine fv_iload_n (q := 5) dX4_peersOf_4 rfl rfl ?_
    refine fv_aload_n (q := 6) dX4_peersOf_5 rfl rfl ?_
    refine fl_getR (q := 9) dX4_peersOf_6 fX4_12 hb.ord rfl rfl ?_
    refine fl_getI (q := 12) dX4_peersOf_9 fX4_34 hb.tab.sh.1 rfl rfl ?_
    refine fv_top (y := nI n) (hT.n v) ?_
    refine fv_icmp_ge (q := 15) 36 dX4_peersOf_12 (by decide) rfl (fun c12 => ?_) (fun c12 => ?_)
    · rw [nI_leI (by omega) (by omega)] at c12
      have hin : i = n := by omega
      subst hin
      refine fv_iload_n (q := 37) dX4_peersOf_36 rfl rfl ?_
      refine fv_iret dX4_peersOf_37 rfl rfl (Nat.le_refl _) ?_
      refine fi_r hPost (congrArg nI (fb_ct_cong (fun k hk => ?_)))
      rw [Bool.eq_iff_iff]
      simp only [Bool.and_eq_true, decide_eq_true_eq]
      exact (pk_iff v hk hr).symm
    · rw [nI_leI (by omega) (by omega)] at c12
      refine fv_aload_n (q := 16) dX4_peersOf_15 rfl rfl ?_
      refine fl_getR (q := 19) dX4_peersOf_16 fX4_12 hb.ord rfl rfl ?_
      refine fv_iload_n (q := 20) dX4_peersOf_19 rfl rfl ?_
      refine fv_iload_n (q := 21) dX4_peersOf_20 rfl rfl ?_
      refine fl_callVi (As := [_, _]) (q := 24) dX4_peersOf_21 gX4_52 rfl hb.tab.sh.1 rfl rfl (Nat.le_of_ble_eq_true rfl) rfl (by decide) (c_arePeers (b + 2) hb.tab D J T hT i r (by omega) (by omega)) ?_
      refine fv_if_eq (q := 27) 30 dX4_peersOf_24 (by decide) rfl (fun c24 => ?_) (fun c24 => ?_)
      · rw [bi_0] at c24
        refine fv_iinc (v := _ + 1) (q := 33) (l' := [_, _, _, _]) dX4_peersOf_30 rfl rfl (by decide) rfl rfl rfl ?_
        refine fv_goto 4 dX4_peersOf_33 (by decide) ?_
        have hp : ¬ (fun e => decide (pa T e = pa T r) && decide (ke T e = ke T r)) i = true := by simpa using c24
        have h9 := ih (by omega)
        rw [fb_ct_succ, if_neg hp, Nat.add_zero] at h9
        rw [nI_1]
        exact h9
      · rw [bi_n'] at c24
        refine fv_iinc (v := _ + 1) (q := 30) (l' := [_, _, _, _]) dX4_peersOf_27 rfl rfl (by decide) rfl rfl rfl ?_
        refine fv_iinc (v := _ + 1) (q := 33) (l' := [_, _, _, _]) dX4_peersOf_30 rfl rfl (by decide) rfl rfl rfl ?_
        refine fv_goto 4 dX4_peersOf_33 (by decide) ?_
        have hp : (fun e => decide (pa T e = pa T r) && decide (ke T e = ke T r)) i = true := c24
        have h9 := ih (by omega)
        rw [fb_ct_succ, if_pos hp] at h9
        rw [nI_1, nI_1]
        exact h9
  refine fv_iconst (v := 0) (q := 1) dX4_peersOf_0 (by decide) rfl ?_
  refine fv_istore_n (i := 2) (q := 2) (l' := [_, _, _, _]) dX4_peersOf_1 rfl (by decide) rfl rfl rfl ?_
  refine fv_iconst (v := 0) (q := 3) dX4_peersOf_2 (by decide) rfl ?_
  refine fv_istore_n (i := 3) (q := 4) (l' := [_, _, _, _]) dX4_peersOf_3 rfl (by decide) rfl rfl rfl ?_
  exact loop 0 (Nat.zero_le _)
set_option maxHeartbeats 4000000 in
set_option maxRecDepth 100000 in
theorem c_sizeOfPart (b : Nat) (hb : LenIx b) (D : Nat → Nat → Int32) (J : Nat → Nat → Int64) (T : Nat → Int32) (n : Nat) (hT : TabOf D (b + 2) T) (v : VT T n) (hO : OrdOf D b T n) (r : Nat) (hr : r < n) : FI yX4_sizeOfPart cX4_sizeOfPart 4 (some .int) 0 [.ref (b + 1), .int (nI r)] D J (nI (pm T n r)) := by
  refine FI.of (by decide) rfl (Nat.le_of_ble_eq_true rfl) (fun Post hPost => ?_)
  show FV _ _ _ _ _ _ _ _ _ _ _ _ [_, _, _, _] [] _
  have h40 := v.2.1
  have loop : ∀ i, i ≤ n → FV cX4_sizeOfPart 4 (some .int) yX4_sizeOfPart.cls yX4_sizeOfPart.name 0 0 0 Post 0 0 4 [some (.ref (b + 1)), some (.int (nI r)), some (.int (nI (fb_ct (fun e => decide (pa T e = pa T r)) i))), some (.int (nI i))] [] (lay D J) := by
    refine up_ind (fun i hi ih => ?_)
    refine fv_iload_n (q := 5) dX4_sizeOfPart_4 rfl rfl ?_
    refine fv_aload_n (q := 6) dX4_sizeOfPart_5 rfl rfl ?_
    refine fl_getR (q := 9) dX4_sizeOfPart_6 fX4_12 hb.ord rfl rfl ?_
    refine fl_getI (q := 12) dX4_sizeOfPart_9 fX4_34 hb.tab.sh.1 rfl rfl ?_
    refine fv_top (y := nI n) (hT.n v) ?_
    refine fv_icmp_ge (q := 15) 45 dX4_sizeOfPart_12 (by decide) rfl (fun c12 => ?_) (fun c12 => ?_)
    · rw [nI_leI (by omega) (by omega)] at c12
      have hin : i = n := by omega
      subst hin
      refine fv_iload_n (q := 46) dX4_sizeOfPart_45 rfl rfl ?_
      refine fv_iret dX4_sizeOfPart_46 rfl rfl (Nat.le_refl _) ?_
      refine fi_r hPost (congrArg nI (fb_ct_cong (fun k hk => ?_)))
      rw [decide_eq_decide]
      exact pz_iff.symm
    · rw [nI_leI (by omega) (by omega)] at c12
      refine fv_aload_n (q := 16) dX4_sizeOfPart_15 rfl rfl ?_
      refine fl_getR (q := 19) dX4_sizeOfPart_16 fX4_12 hb.ord rfl rfl ?_
      refine fl_getR (q := 22) dX4_sizeOfPart_19 fX4_42 hb.tab.sh.1 rfl rfl ?_
      refine fv_iload_n (q := 23) dX4_sizeOfPart_22 rfl rfl ?_
      refine fl_iald (q := 24) _ dX4_sizeOfPart_23 hb.tab.sh.2.1 (by decide) rfl (by omega) rfl ?_
      refine fv_top (hT.2.1 i (by omega)) ?_
      refine fv_aload_n (q := 25) dX4_sizeOfPart_24 rfl rfl ?_
      refine fl_getR (q := 28) dX4_sizeOfPart_25 fX4_12 hb.ord rfl rfl ?_
      refine fl_getR (q := 31) dX4_sizeOfPart_28 fX4_42 hb.tab.sh.1 rfl rfl ?_
      refine fv_iload_n (q := 32) dX4_sizeOfPart_31 rfl rfl ?_
      refine fl_iald (q := 33) _ dX4_sizeOfPart_32 hb.tab.sh.2.1 (by decide) rfl (by omega) rfl ?_
      refine fv_top (hT.2.1 r (by omega)) ?_
      refine fv_icmp_ne (q := 36) 39 dX4_sizeOfPart_33 (by decide) rfl (fun c33 => ?_) (fun c33 => ?_)
      · refine fv_iinc (v := _ + 1) (q := 42) (l' := [_, _, _, _]) dX4_sizeOfPart_39 rfl rfl (by decide) rfl rfl rfl ?_
        refine fv_goto 4 dX4_sizeOfPart_42 (by decide) ?_
        have hp : ¬ (fun e => decide (pa T e = pa T r)) i = true := by simp [c33]
        have h9 := ih (by omega)
        rw [fb_ct_succ, if_neg hp, Nat.add_zero] at h9
        rw [nI_1]
        exact h9
      · refine fv_iinc (v := _ + 1) (q := 39) (l' := [_, _, _, _]) dX4_sizeOfPart_36 rfl rfl (by decide) rfl rfl rfl ?_
        refine fv_iinc (v := _ + 1) (q := 42) (l' := [_, _, _, _]) dX4_sizeOfPart_39 rfl rfl (by decide) rfl rfl rfl ?_
        refine fv_goto 4 dX4_sizeOfPart_42 (by decide) ?_
        have hp : (fun e => decide (pa T e = pa T r)) i = true := by simp [c33]
        have h9 := ih (by omega)
        rw [fb_ct_succ, if_pos hp] at h9
        rw [nI_1, nI_1]
        exact h9
  refine fv_iconst (v := 0) (q := 1) dX4_sizeOfPart_0 (by decide) rfl ?_
  refine fv_istore_n (i := 2) (q := 2) (l' := [_, _, _, _]) dX4_sizeOfPart_1 rfl (by decide) rfl rfl rfl ?_
  refine fv_iconst (v := 0) (q := 3) dX4_sizeOfPart_2 (by decide) rfl ?_
  refine fv_istore_n (i := 3) (q := 4) (l' := [_, _, _, _]) dX4_sizeOfPart_3 rfl (by decide) rfl rfl rfl ?_
  exact loop 0 (Nat.zero_le _)
set_option maxHeartbeats 4000000 in
set_option maxRecDepth 100000 in
theorem c_groupsHeld (b : Nat) (hb : LenIx b) (D : Nat → Nat → Int32) (J : Nat → Nat → Int64) (T : Nat → Int32) (n : Nat) (hT : TabOf D (b + 2) T) (v : VT T n) (hO : OrdOf D b T n) : FI yX4_groupsHeld cX4_groupsHeld 3 (some .int) 1 [.ref (b + 1)] D J (nI (fb_ct (fun r => decide (gf T n r = pos T n r)) n)) := by
  refine FI.of (by decide) rfl (Nat.le_of_ble_eq_true rfl) (fun Post hPost => ?_)
  show FV _ _ _ _ _ _ _ _ _ _ _ _ [_, _, _] [] _
  have h40 := v.2.1
  have loop : ∀ i, i ≤ n → FV cX4_groupsHeld 3 (some .int) yX4_groupsHeld.cls yX4_groupsHeld.name 1 0 0 Post 0 0 4 [some (.ref (b + 1)), some (.int (nI (fb_ct (fun r => decide (gf T n r = pos T n r)) i))), some (.int (nI i))] [] (lay D J) := by
    refine up_ind (fun i hi ih => ?_)
    refine fv_iload_n (q := 5) dX4_groupsHeld_4 rfl rfl ?_
    refine fv_aload_n (q := 6) dX4_groupsHeld_5 rfl rfl ?_
    refine fl_getR (q := 9) dX4_groupsHeld_6 fX4_12 hb.ord rfl rfl ?_
    refine fl_getI (q := 12) dX4_groupsHeld_9 fX4_34 hb.tab.sh.1 rfl rfl ?_
    refine fv_top (y := nI n) (hT.n v) ?_
    refine fv_icmp_ge (q := 15) 38 dX4_groupsHeld_12 (by decide) rfl (fun c12 => ?_) (fun c12 => ?_)
    · rw [nI_leI (by omega) (by omega)] at c12
      have hin : i = n := by omega
      subst hin
      refine fv_iload_n (q := 39) dX4_groupsHeld_38 rfl rfl ?_
      refine fv_iret dX4_groupsHeld_39 rfl rfl (Nat.le_refl _) ?_
      exact hPost
    · rw [nI_leI (by omega) (by omega)] at c12
      refine fv_aload_n (q := 16) dX4_groupsHeld_15 rfl rfl ?_
      refine fv_iload_n (q := 17) dX4_groupsHeld_16 rfl rfl ?_
      refine fl_callVi (As := [_]) (q := 20) dX4_groupsHeld_17 gX4_56 rfl hb.ord rfl rfl (Nat.le_of_ble_eq_true rfl) rfl (by decide) (c_aheadOfPeers b hb D J T n hT v hO i (by omega)) ?_
      refine fv_aload_n (q := 21) dX4_groupsHeld_20 rfl rfl ?_
      refine fl_getR (q := 24) dX4_groupsHeld_21 fX4_25 hb.ord rfl rfl ?_
      refine fv_iload_n (q := 25) dX4_groupsHeld_24 rfl rfl ?_
      refine fl_iald (q := 26) _ dX4_groupsHeld_25 hb.arr.2.2.1 (by decide) rfl (by omega) rfl ?_
      refine fv_top (hO.2.2.1 i (by omega)) ?_
      have hpp := pos_lt (T := T) (n := n) (r := i) (by omega)
      have hp1 := (pos_part (T := T) (n := n) (r := i) (by omega)).1
      have hp2 := (cl_pos (pkK v) (r := i) (by omega)).1
      have hp3 := gf_pf v (r := i) (by omega)
      have hp4 : gf T n i ≤ pos T n i := hp2
      refine fv_icmp_ne (q := 29) 32 dX4_groupsHeld_26 (by decide) rfl (fun c26 => ?_) (fun c26 => ?_)
      · rw [nI_eq (by omega) (by omega)] at c26
        refine fv_iinc (v := _ + 1) (q := 35) (l' := [_, _, _]) dX4_groupsHeld_32 rfl rfl (by decide) rfl rfl rfl ?_
        refine fv_goto 4 dX4_groupsHeld_35 (by decide) ?_
        have hp : ¬ (fun r => decide (gf T n r = pos T n r)) i = true := by simp; omega
        have h9 := ih (by omega)
        rw [fb_ct_succ, if_neg hp, Nat.add_zero] at h9
        rw [nI_1]
        exact h9
      · rw [nI_eq (by omega) (by omega)] at c26
        refine fv_iinc (v := _ + 1) (q := 32) (l' := [_, _, _]) dX4_groupsHeld_29 rfl rfl (by decide) rfl rfl rfl ?_
        refine fv_iinc (v := _ + 1) (q := 35) (l' := [_, _, _]) dX4_groupsHeld_32 rfl rfl (by decide) rfl rfl rfl ?_
        refine fv_goto 4 dX4_groupsHeld_35 (by decide) ?_
        have hp : (fun r => decide (gf T n r = pos T n r)) i = true := by simp; omega
        have h9 := ih (by omega)
        rw [fb_ct_succ, if_pos hp] at h9
        rw [nI_1, nI_1]
        exact h9
  refine fv_iconst (v := 0) (q := 1) dX4_groupsHeld_0 (by decide) rfl ?_
  refine fv_istore_n (i := 1) (q := 2) (l' := [_, _, _]) dX4_groupsHeld_1 rfl (by decide) rfl rfl rfl ?_
  refine fv_iconst (v := 0) (q := 3) dX4_groupsHeld_2 (by decide) rfl ?_
  refine fv_istore_n (i := 2) (q := 4) (l' := [_, _, _]) dX4_groupsHeld_3 rfl (by decide) rfl rfl rfl ?_
  exact loop 0 (Nat.zero_le _)
set_option maxHeartbeats 4000000 in
set_option maxRecDepth 100000 in
theorem c_unlikeSpots (b : Nat) (hb : LenIx b) (D : Nat → Nat → Int32) (J : Nat → Nat → Int64) (T : Nat → Int32) (n : Nat) (hT : TabOf D (b + 2) T) (v : VT T n) (c : Nat) (hc : LenIx c) : FI yX4_unlikeSpots cX4_unlikeSpots 4 (some .int) 0 [.ref (b + 1), .ref (c + 1)] D J (nI (fb_ct (fun r => decide (¬ D (b + 7) r = D (c + 7) r)) n)) := by
  refine FI.of (by decide) rfl (Nat.le_of_ble_eq_true rfl) (fun Post hPost => ?_)
  show FV _ _ _ _ _ _ _ _ _ _ _ _ [_, _, _, _] [] _
  have h40 := v.2.1
  have loop : ∀ i, i ≤ n → FV cX4_unlikeSpots 4 (some .int) yX4_unlikeSpots.cls yX4_unlikeSpots.name 0 0 0 Post 0 0 4 [some (.ref (b + 1)), some (.ref (c + 1)), some (.int (nI (fb_ct (fun r => decide (¬ D (b + 7) r = D (c + 7) r)) i))), some (.int (nI i))] [] (lay D J) := by
    refine up_ind (fun i hi ih => ?_)
    refine fv_iload_n (q := 5) dX4_unlikeSpots_4 rfl rfl ?_
    refine fv_aload_n (q := 6) dX4_unlikeSpots_5 rfl rfl ?_
    refine fl_getR (q := 9) dX4_unlikeSpots_6 fX4_12 hb.ord rfl rfl ?_
    refine fl_getI (q := 12) dX4_unlikeSpots_9 fX4_34 hb.tab.sh.1 rfl rfl ?_
    refine fv_top (y := nI n) (hT.n v) ?_
    refine fv_icmp_ge (q := 15) 39 dX4_unlikeSpots_12 (by decide) rfl (fun c12 => ?_) (fun c12 => ?_)
    · rw [nI_leI (by omega) (by omega)] at c12
      have hin : i = n := by omega
      subst hin
      refine fv_iload_n (q := 40) dX4_unlikeSpots_39 rfl rfl ?_
      refine fv_iret dX4_unlikeSpots_40 rfl rfl (Nat.le_refl _) ?_
      exact hPost
    · rw [nI_leI (by omega) (by omega)] at c12
      refine fv_aload_n (q := 16) dX4_unlikeSpots_15 rfl rfl ?_
      refine fl_getR (q := 19) dX4_unlikeSpots_16 fX4_22 hb.ord rfl rfl ?_
      refine fv_iload_n (q := 20) dX4_unlikeSpots_19 rfl rfl ?_
      refine fl_iald (q := 21) _ dX4_unlikeSpots_20 hb.arr.2.1 (by decide) rfl (by omega) rfl ?_
      refine fv_aload_n (q := 22) dX4_unlikeSpots_21 rfl rfl ?_
      refine fl_getR (q := 25) dX4_unlikeSpots_22 fX4_22 hc.ord rfl rfl ?_
      refine fv_iload_n (q := 26) dX4_unlikeSpots_25 rfl rfl ?_
      refine fl_iald (q := 27) _ dX4_unlikeSpots_26 hc.arr.2.1 (by decide) rfl (by omega) rfl ?_
      refine fv_icmp_eq (q := 30) 33 dX4_unlikeSpots_27 (by decide) rfl (fun c27 => ?_) (fun c27 => ?_)
      · refine fv_iinc (v := _ + 1) (q := 36) (l' := [_, _, _, _]) dX4_unlikeSpots_33 rfl rfl (by decide) rfl rfl rfl ?_
        refine fv_goto 4 dX4_unlikeSpots_36 (by decide) ?_
        have hp : ¬ (fun r => decide (¬ D (b + 7) r = D (c + 7) r)) i = true := by simpa using c27
        have h9 := ih (by omega)
        rw [fb_ct_succ, if_neg hp, Nat.add_zero] at h9
        rw [nI_1]
        exact h9
      · refine fv_iinc (v := _ + 1) (q := 33) (l' := [_, _, _, _]) dX4_unlikeSpots_30 rfl rfl (by decide) rfl rfl rfl ?_
        refine fv_iinc (v := _ + 1) (q := 36) (l' := [_, _, _, _]) dX4_unlikeSpots_33 rfl rfl (by decide) rfl rfl rfl ?_
        refine fv_goto 4 dX4_unlikeSpots_36 (by decide) ?_
        have hp : (fun r => decide (¬ D (b + 7) r = D (c + 7) r)) i = true := by simpa using c27
        have h9 := ih (by omega)
        rw [fb_ct_succ, if_pos hp] at h9
        rw [nI_1, nI_1]
        exact h9
  refine fv_iconst (v := 0) (q := 1) dX4_unlikeSpots_0 (by decide) rfl ?_
  refine fv_istore_n (i := 2) (q := 2) (l' := [_, _, _, _]) dX4_unlikeSpots_1 rfl (by decide) rfl rfl rfl ?_
  refine fv_iconst (v := 0) (q := 3) dX4_unlikeSpots_2 (by decide) rfl ?_
  refine fv_istore_n (i := 3) (q := 4) (l' := [_, _, _, _]) dX4_unlikeSpots_3 rfl (by decide) rfl rfl rfl ?_
  exact loop 0 (Nat.zero_le _)
def msI (T : Nat → Int32) (n r : Nat) : Int32 := if T 1 = 0 then nI (pos T n r - pf T n r) else if T 1 = 1 then od T r else nI (gr T n r)
theorem msI_z {T : Nat → Int32} {n r : Nat} (v : VT T n) (hr : r < n) : (msI T n r).toInt = msz T n (pos T n r) := by
  have h40 := v.2.1
  have h1 := pos_lt (T := T) hr
  have h2 := (pos_part (T := T) hr).1
  have h3 := grk_le T n (pos T n r)
  unfold msI msz
  rw [lin_pos hr]
  split
  · rw [nI_toInt (by omega)]; omega
  · split
    · rfl
    · rw [nI_toInt (by unfold gr; omega)]; rfl
theorem lk2 {k a c d : Int} (h0 : ¬ k = 0) (h1 : ¬ k = 1) : Op.lookupswitch.offset [(0, a), (1, c)] d k = d := by
  simp [Op.lookupswitch.offset, Ne.symm h0, Ne.symm h1]
set_option maxHeartbeats 4000000 in
set_option maxRecDepth 100000 in
theorem c_measure (b : Nat) (hb : LenIx b) (D : Nat → Nat → Int32) (J : Nat → Nat → Int64) (T : Nat → Int32) (n : Nat) (hT : TabOf D (b + 2) T) (v : VT T n) (hO : OrdOf D b T n) (r : Nat) (hr : r < n) : FI yX4_measure cX4_measure 2 (some .int) 1 [.ref (b + 1), .int (nI r)] D J (msI T n r) := by
  refine FI.of (by decide) rfl (Nat.le_of_ble_eq_true rfl) (fun Post hPost => ?_)
  show FV _ _ _ _ _ _ _ _ _ _ _ _ [_, _] [] _
  have h40 := v.2.1
  have wA : T 1 = 0 → FV cX4_measure 2 (some .int) yX4_measure.cls yX4_measure.name 1 0 0 Post 0 0 32 [some (.ref (b + 1)), some (.int (nI r))] [] (lay D J) := by
    intro h0
    refine fv_aload_n (q := 33) dX4_measure_32 rfl rfl ?_
    refine fl_getR (q := 36) dX4_measure_33 fX4_25 hb.ord rfl rfl ?_
    refine fv_iload_n (q := 37) dX4_measure_36 rfl rfl ?_
    refine fl_iald (q := 38) _ dX4_measure_37 hb.arr.2.2.1 (by decide) rfl (by omega) rfl ?_
    refine fv_top (hO.2.2.1 r hr) ?_
    refine fv_iret dX4_measure_38 rfl rfl (Nat.le_refl _) ?_
    exact fi_r hPost (by unfold msI; rw [if_pos h0])
  have wB : ¬ T 1 = 0 → T 1 = 1 → FV cX4_measure 2 (some .int) yX4_measure.cls yX4_measure.name 1 0 0 Post 0 0 39 [some (.ref (b + 1)), some (.int (nI r))] [] (lay D J) := by
    intro h0 h1
    refine fv_aload_n (q := 40) dX4_measure_39 rfl rfl ?_
    refine fl_getR (q := 43) dX4_measure_40 fX4_12 hb.ord rfl rfl ?_
    refine fv_aload_n (q := 44) dX4_measure_43 rfl rfl ?_
    refine fl_getR (q := 47) dX4_measure_44 fX4_12 hb.ord rfl rfl ?_
    refine fl_getR (q := 50) dX4_measure_47 fX4_45 hb.tab.sh.1 rfl rfl ?_
    refine fv_iload_n (q := 51) dX4_measure_50 rfl rfl ?_
    refine fl_iald (q := 52) _ dX4_measure_51 hb.tab.sh.2.2.1 (by decide) rfl (by omega) rfl ?_
    refine fv_top (hT.2.2.1 r (by omega)) ?_
    refine fl_callVi (As := [_]) (q := 55) dX4_measure_52 gX4_63 rfl hb.tab.sh.1 rfl rfl (Nat.le_of_ble_eq_true rfl) rfl (by decide) (c_rank (b + 2) hb.tab _ D J T (hT.1 5 (by decide)) v.2.2.1) ?_
    refine fv_iret dX4_measure_55 rfl rfl (Nat.le_refl _) ?_
    exact fi_r hPost (by unfold msI; rw [if_neg h0, if_pos h1]; rfl)
  have wC : ¬ T 1 = 0 → ¬ T 1 = 1 → FV cX4_measure 2 (some .int) yX4_measure.cls yX4_measure.name 1 0 0 Post 0 0 56 [some (.ref (b + 1)), some (.int (nI r))] [] (lay D J) := by
    intro h0 h1
    refine fv_aload_n (q := 57) dX4_measure_56 rfl rfl ?_
    refine fl_getR (q := 60) dX4_measure_57 fX4_28 hb.ord rfl rfl ?_
    refine fv_iload_n (q := 61) dX4_measure_60 rfl rfl ?_
    refine fl_iald (q := 62) _ dX4_measure_61 hb.arr.2.2.2.1 (by decide) rfl (by omega) rfl ?_
    refine fv_top (hO.2.2.2 r hr) ?_
    refine fv_iret dX4_measure_62 rfl rfl (Nat.le_refl _) ?_
    exact fi_r hPost (by unfold msI; rw [if_neg h0, if_neg h1])
  refine fv_aload_n (q := 1) dX4_measure_0 rfl rfl ?_
  refine fl_getR (q := 4) dX4_measure_1 fX4_12 hb.ord rfl rfl ?_
  refine fl_getI (q := 7) dX4_measure_4 fX4_60 hb.tab.sh.1 rfl rfl ?_
  refine fv_top (hT.1 1 (by decide)) ?_
  by_cases h0 : T 1 = 0
  · refine fv_top h0 ?_
    exact fv_lookup 32 dX4_measure_7 rfl rfl (by decide) (wA h0)
  · by_cases h1 : T 1 = 1
    · refine fv_top h1 ?_
      exact fv_lookup 39 dX4_measure_7 rfl rfl (by decide) (wB h0 h1)
    · refine fv_lookup 56 dX4_measure_7 rfl (lk2 (fun z => h0 ?_) (fun z => h1 ?_)) (by decide) (wC h0 h1)
      · rw [fa_eq]; exact z
      · rw [fa_eq]; exact z
