set_option maxHeartbeats 4000000 in
set_option maxRecDepth 100000 in
theorem c_has (t : Nat) (ht : TabIx t) (r : Int32) (D : Nat → Nat → Int32) (J : Nat → Nat → Int64) : FI yX5_has cX5_has 2 (some .boolean) 0 [.ref t, .int r] D J (bi (decide (¬ r < 0) && decide (r < D t 3))) := by
  refine FI.of (by decide) rfl (Nat.le_of_ble_eq_true rfl) (fun Post hPost => ?_)
  show FV _ _ _ _ _ _ _ _ _ _ _ _ [_, _] [] _
  refine fv_iload_n (q := 1) dX5_has_0 rfl rfl ?_
  refine fv_if_lt (q := 4) 16 dX5_has_1 (by decide) rfl (fun c1 => ?_) (fun c1 => ?_)
  · refine fv_iconst (v := 0) (q := 17) dX5_has_16 (by decide) rfl ?_
    refine fv_zret dX5_has_17 rfl (by decide) rfl (Nat.le_refl _) ?_
    exact fi_r hPost (by simp_all [bi])
  · refine fv_iload_n (q := 5) dX5_has_4 rfl rfl ?_
    refine fv_aload_n (q := 6) dX5_has_5 rfl rfl ?_
    refine fl_getI (q := 9) dX5_has_6 fX5_21 ht.sh.1 rfl rfl ?_
    refine fv_icmp_ge (q := 12) 16 dX5_has_9 (by decide) rfl (fun c9 => ?_) (fun c9 => ?_)
    · refine fv_iconst (v := 0) (q := 17) dX5_has_16 (by decide) rfl ?_
      refine fv_zret dX5_has_17 rfl (by decide) rfl (Nat.le_refl _) ?_
      exact fi_r hPost (by simp_all [bi])
    · refine fv_iconst (v := 1) (q := 13) dX5_has_12 (by decide) rfl ?_
      refine fv_goto 17 dX5_has_13 (by decide) ?_
      refine fv_zret dX5_has_17 rfl (by decide) rfl (Nat.le_refl _) ?_
      exact fi_r hPost (by simp_all [bi])
set_option maxHeartbeats 4000000 in
set_option maxRecDepth 100000 in
theorem c_rank (t : Nat) (ht : TabIx t) (k : Int32) (D : Nat → Nat → Int32) (J : Nat → Nat → Int64) (T : Nat → Int32) (h8 : D t 8 = T 5) (h5 : T 5 = 0 ∨ T 5 = 1) : FI yX5_rankOf cX5_rankOf 2 (some .int) 0 [.ref t, .int k] D J (okk T k) := by
  refine FI.of (by decide) rfl (Nat.le_of_ble_eq_true rfl) (fun Post hPost => ?_)
  show FV _ _ _ _ _ _ _ _ _ _ _ _ [_, _] [] _
  refine fv_iload_n (q := 1) dX5_rankOf_0 rfl rfl ?_
  refine fv_ldc (q := 3) dX5_rankOf_1 kX5_51 rfl ?_
  refine fv_icmp_ne (q := 6) 18 dX5_rankOf_3 (by decide) rfl (fun c3 => ?_) (fun c3 => ?_)
  · refine fv_iload_n (q := 19) dX5_rankOf_18 rfl rfl ?_
    refine fv_iret dX5_rankOf_19 rfl rfl (Nat.le_refl _) ?_
    exact fi_r hPost (by rcases h5 with h5 | h5 <;> simp_all [okk])
  · refine fv_aload_n (q := 7) dX5_rankOf_6 rfl rfl ?_
    refine fl_getI (q := 10) dX5_rankOf_7 fX5_37 ht.sh.1 rfl rfl ?_
    refine fv_if_eq (q := 13) 18 dX5_rankOf_10 (by decide) rfl (fun c10 => ?_) (fun c10 => ?_)
    · refine fv_iload_n (q := 19) dX5_rankOf_18 rfl rfl ?_
      refine fv_iret dX5_rankOf_19 rfl rfl (Nat.le_refl _) ?_
      exact fi_r hPost (by rcases h5 with h5 | h5 <;> simp_all [okk])
    · refine fv_ldc (q := 15) dX5_rankOf_13 kX5_52 rfl ?_
      refine fv_goto 19 dX5_rankOf_15 (by decide) ?_
      refine fv_iret dX5_rankOf_19 rfl rfl (Nat.le_refl _) ?_
      exact fi_r hPost (by rcases h5 with h5 | h5 <;> simp_all [okk])
set_option maxHeartbeats 4000000 in
set_option maxRecDepth 100000 in
theorem c_isBefore (t : Nat) (ht : TabIx t) (D : Nat → Nat → Int32) (J : Nat → Nat → Int64) (T : Nat → Int32) (hT : TabOf D t T) (h5 : T 5 = 0 ∨ T 5 = 1) (p k : Int32) (r : Nat) (hr : r < 40) : FI yX5_isBefore cX5_isBefore 4 (some .boolean) 1 [.ref t, .int p, .int k, .int (nI r)] D J (bi (decide (p.toInt < pz T r ∨ (p.toInt = pz T r ∧ (okk T k).toInt < oz T r)))) := by
  refine FI.of (by decide) rfl (Nat.le_of_ble_eq_true rfl) (fun Post hPost => ?_)
  show FV _ _ _ _ _ _ _ _ _ _ _ _ [_, _, _, _] [] _
  have e1 := hT.2.1 r hr
  have e2 := hT.2.2.1 r hr
  have e8 := hT.1 5 (by decide)
  refine fv_iload_n (q := 1) dX5_isBefore_0 rfl rfl ?_
  refine fv_aload_n (q := 2) dX5_isBefore_1 rfl rfl ?_
  refine fl_getR (q := 5) dX5_isBefore_2 fX5_9 ht.sh.1 rfl rfl ?_
  refine fv_iload_n (q := 6) dX5_isBefore_5 rfl rfl ?_
  refine fl_iald (q := 7) _ dX5_isBefore_6 ht.sh.2.1 (by decide) rfl (by omega) rfl ?_
  refine fv_icmp_eq (q := 10) 26 dX5_isBefore_7 (by decide) rfl (fun c7 => ?_) (fun c7 => ?_)
  · refine fv_aload_n (q := 27) dX5_isBefore_26 rfl rfl ?_
    refine fv_iload_n (q := 28) dX5_isBefore_27 rfl rfl ?_
    refine fl_callVi (As := [_]) (q := 31) dX5_isBefore_28 gX5_53 rfl ht.sh.1 rfl rfl (Nat.le_of_ble_eq_true rfl) rfl (by decide) (c_rank t ht _ D J T e8 h5) ?_
    refine fv_aload_n (q := 32) dX5_isBefore_31 rfl rfl ?_
    refine fv_aload_n (q := 33) dX5_isBefore_32 rfl rfl ?_
    refine fl_getR (q := 36) dX5_isBefore_33 fX5_15 ht.sh.1 rfl rfl ?_
    refine fv_iload_n (q := 37) dX5_isBefore_36 rfl rfl ?_
    refine fl_iald (q := 38) _ dX5_isBefore_37 ht.sh.2.2.1 (by decide) rfl (by omega) rfl ?_
    refine fl_callVi (As := [_]) (q := 41) dX5_isBefore_38 gX5_53 rfl ht.sh.1 rfl rfl (Nat.le_of_ble_eq_true rfl) rfl (by decide) (c_rank t ht _ D J T e8 h5) ?_
    refine fv_icmp_ge (q := 44) 48 dX5_isBefore_41 (by decide) rfl (fun c41 => ?_) (fun c41 => ?_)
    · refine fv_iconst (v := 0) (q := 49) dX5_isBefore_48 (by decide) rfl ?_
      refine fv_zret dX5_isBefore_49 rfl (by decide) rfl (Nat.le_refl _) ?_
      refine fi_r hPost ?_
      rw [e1] at *
      first | rw [e2] at * | skip
      unfold pz oz od
      simp only [fa_lt, fa_le, fa_eq] at *
      simp only [bi]
      split <;> simp_all <;> omega
    · refine fv_iconst (v := 1) (q := 45) dX5_isBefore_44 (by decide) rfl ?_
      refine fv_goto 49 dX5_isBefore_45 (by decide) ?_
      refine fv_zret dX5_isBefore_49 rfl (by decide) rfl (Nat.le_refl _) ?_
      refine fi_r hPost ?_
      rw [e1] at *
      first | rw [e2] at * | skip
      unfold pz oz od
      simp only [fa_lt, fa_le, fa_eq] at *
      simp only [bi]
      split <;> simp_all <;> omega
  · refine fv_iload_n (q := 11) dX5_isBefore_10 rfl rfl ?_
    refine fv_aload_n (q := 12) dX5_isBefore_11 rfl rfl ?_
    refine fl_getR (q := 15) dX5_isBefore_12 fX5_9 ht.sh.1 rfl rfl ?_
    refine fv_iload_n (q := 16) dX5_isBefore_15 rfl rfl ?_
    refine fl_iald (q := 17) _ dX5_isBefore_16 ht.sh.2.1 (by decide) rfl (by omega) rfl ?_
    refine fv_icmp_ge (q := 20) 24 dX5_isBefore_17 (by decide) rfl (fun c17 => ?_) (fun c17 => ?_)
    · refine fv_iconst (v := 0) (q := 25) dX5_isBefore_24 (by decide) rfl ?_
      refine fv_zret dX5_isBefore_25 rfl (by decide) rfl (Nat.le_refl _) ?_
      refine fi_r hPost ?_
      rw [e1] at *
      first | rw [e2] at * | skip
      unfold pz oz od
      simp only [fa_lt, fa_le, fa_eq] at *
      simp only [bi]
      split <;> simp_all <;> omega
    · refine fv_iconst (v := 1) (q := 21) dX5_isBefore_20 (by decide) rfl ?_
      refine fv_goto 25 dX5_isBefore_21 (by decide) ?_
      refine fv_zret dX5_isBefore_25 rfl (by decide) rfl (Nat.le_refl _) ?_
      refine fi_r hPost ?_
      rw [e1] at *
      first | rw [e2] at * | skip
      unfold pz oz od
      simp only [fa_lt, fa_le, fa_eq] at *
      simp only [bi]
      split <;> simp_all <;> omega
set_option maxHeartbeats 4000000 in
set_option maxRecDepth 100000 in
theorem c_arePeers (t : Nat) (ht : TabIx t) (D : Nat → Nat → Int32) (J : Nat → Nat → Int64) (T : Nat → Int32) (hT : TabOf D t T) (a b : Nat) (ha : a < 40) (hb : b < 40) : FI yX5_arePeers cX5_arePeers 3 (some .boolean) 0 [.ref t, .int (nI a), .int (nI b)] D J (bi (decide (pa T a = pa T b) && decide (ke T a = ke T b))) := by
  refine FI.of (by decide) rfl (Nat.le_of_ble_eq_true rfl) (fun Post hPost => ?_)
  show FV _ _ _ _ _ _ _ _ _ _ _ _ [_, _, _] [] _
  have e1 := hT.2.1 a ha
  have e2 := hT.2.2.1 a ha
  have e3 := hT.2.1 b hb
  have e4 := hT.2.2.1 b hb
  refine fv_aload_n (q := 1) dX5_arePeers_0 rfl rfl ?_
  refine fl_getR (q := 4) dX5_arePeers_1 fX5_9 ht.sh.1 rfl rfl ?_
  refine fv_iload_n (q := 5) dX5_arePeers_4 rfl rfl ?_
  refine fl_iald (q := 6) _ dX5_arePeers_5 ht.sh.2.1 (by decide) rfl (by omega) rfl ?_
  refine fv_aload_n (q := 7) dX5_arePeers_6 rfl rfl ?_
  refine fl_getR (q := 10) dX5_arePeers_7 fX5_9 ht.sh.1 rfl rfl ?_
  refine fv_iload_n (q := 11) dX5_arePeers_10 rfl rfl ?_
  refine fl_iald (q := 12) _ dX5_arePeers_11 ht.sh.2.1 (by decide) rfl (by omega) rfl ?_
  refine fv_icmp_ne (q := 15) 34 dX5_arePeers_12 (by decide) rfl (fun c12 => ?_) (fun c12 => ?_)
  · refine fv_iconst (v := 0) (q := 35) dX5_arePeers_34 (by decide) rfl ?_
    refine fv_zret dX5_arePeers_35 rfl (by decide) rfl (Nat.le_refl _) ?_
    refine fi_r hPost ?_
    simp only [bi]
    simp_all
  · refine fv_aload_n (q := 16) dX5_arePeers_15 rfl rfl ?_
    refine fl_getR (q := 19) dX5_arePeers_16 fX5_15 ht.sh.1 rfl rfl ?_
    refine fv_iload_n (q := 20) dX5_arePeers_19 rfl rfl ?_
    refine fl_iald (q := 21) _ dX5_arePeers_20 ht.sh.2.2.1 (by decide) rfl (by omega) rfl ?_
    refine fv_aload_n (q := 22) dX5_arePeers_21 rfl rfl ?_
    refine fl_getR (q := 25) dX5_arePeers_22 fX5_15 ht.sh.1 rfl rfl ?_
    refine fv_iload_n (q := 26) dX5_arePeers_25 rfl rfl ?_
    refine fl_iald (q := 27) _ dX5_arePeers_26 ht.sh.2.2.1 (by decide) rfl (by omega) rfl ?_
    refine fv_icmp_ne (q := 30) 34 dX5_arePeers_27 (by decide) rfl (fun c27 => ?_) (fun c27 => ?_)
    · refine fv_iconst (v := 0) (q := 35) dX5_arePeers_34 (by decide) rfl ?_
      refine fv_zret dX5_arePeers_35 rfl (by decide) rfl (Nat.le_refl _) ?_
      refine fi_r hPost ?_
      simp only [bi]
      simp_all
    · refine fv_iconst (v := 1) (q := 31) dX5_arePeers_30 (by decide) rfl ?_
      refine fv_goto 35 dX5_arePeers_31 (by decide) ?_
      refine fv_zret dX5_arePeers_35 rfl (by decide) rfl (Nat.le_refl _) ?_
      refine fi_r hPost ?_
      simp only [bi]
      simp_all
theorem copy_fin {D : Nat → Nat → Int32} {t u : Nat} (hd : t + 4 ≤ u ∨ u + 4 ≤ t) {E1 E : Nat → Nat → Int32} (hE1 : E1 = cpa (cpa (cpa D (u + 1) (t + 1) 0 0 40) (u + 2) (t + 2) 0 0 40) (u + 3) (t + 3) 0 0 40) (hE : E = up (up (up (up (up (up E1 t 3 (D u 3)) t 4 (D u 4)) t 5 (D u 5)) t 6 (D u 6)) t 7 (D u 7)) t 8 (D u 8)) :
    (∀ T, TabOf D u T → TabOf E t T) ∧ ∀ a, a ≠ t → a ≠ t + 1 → a ≠ t + 2 → a ≠ t + 3 → E a = D a := by
  have e1 : ∀ a, a ≠ t → E a = E1 a := fun a ha => by rw [hE, up_n _ _ _ ha, up_n _ _ _ ha, up_n _ _ _ ha, up_n _ _ _ ha, up_n _ _ _ ha, up_n _ _ _ ha]
  have e2 : ∀ a, a ≠ t + 1 → a ≠ t + 2 → a ≠ t + 3 → E1 a = D a := fun a h1 h2 h3 => by rw [hE1, cpa_n _ _ _ _ h3, cpa_n _ _ _ _ h2, cpa_n _ _ _ _ h1]
  refine ⟨fun T hT => ⟨fun f hf => ?_, fun r hr => ?_, fun r hr => ?_, fun r hr => ?_⟩, fun a h0 h1 h2 h3 => by rw [e1 a h0, e2 a h1 h2 h3]⟩
  · rw [← hT.1 f hf, hE]
    simp only [up_s]
    match f, hf with
    | 0, _ => simp [upd]
    | 1, _ => simp [upd]
    | 2, _ => simp [upd]
    | 3, _ => simp [upd]
    | 4, _ => simp [upd]
    | 5, _ => simp [upd]
    | n + 6, h => omega
  · rw [e1 _ (by omega), hE1, cpa_n _ _ _ _ (by omega), cpa_n _ _ _ _ (by omega), cpa_s, sb_cpy0 hr]
    exact hT.2.1 r hr
  · rw [e1 _ (by omega), hE1, cpa_n _ _ _ _ (by omega), cpa_s, sb_cpy0 hr, cpa_n _ _ _ _ (by omega)]
    exact hT.2.2.1 r hr
  · rw [e1 _ (by omega), hE1, cpa_s, sb_cpy0 hr, cpa_n _ _ _ _ (by omega), cpa_n _ _ _ _ (by omega)]
    exact hT.2.2.2 r hr
set_option maxHeartbeats 4000000 in
set_option maxRecDepth 100000 in
theorem c_copy (t u : Nat) (ht : TabIx t) (hu : TabIx u) (hne : t ≠ u) (D : Nat → Nat → Int32) (J : Nat → Nat → Int64) (hz : D u 8 = 0 ∨ D u 8 = 1) : FD yX5_copy cX5_copy 2 none 1 [.ref t, .ref u] D J (fun res D' J' => res = none ∧ J' = J ∧ (∀ T, TabOf D u T → TabOf D' t T) ∧ ∀ a, a ≠ t → a ≠ t + 1 → a ≠ t + 2 → a ≠ t + 3 → D' a = D a) := by
  refine FD.of (by decide) rfl (Nat.le_of_ble_eq_true rfl) (fun Post hPost => ?_)
  show FV _ _ _ _ _ _ _ _ _ _ _ _ [_, _] [] _
  have hd := ht.dis hu hne
  have n0 : ¬ u = t := by omega
  have n1 : ¬ u = t + 1 := by omega
  have n2 : ¬ u = t + 2 := by omega
  have n3 : ¬ u = t + 3 := by omega
  refine fv_aload_n (q := 1) dX5_copy_0 rfl rfl ?_
  refine fl_getR (q := 4) dX5_copy_1 fX5_9 hu.sh.1 rfl rfl ?_
  refine fv_iconst (v := 0) (q := 5) dX5_copy_4 (by decide) rfl ?_
  refine fv_aload_n (q := 6) dX5_copy_5 rfl rfl ?_
  refine fl_getR (q := 9) dX5_copy_6 fX5_9 ht.sh.1 rfl rfl ?_
  refine fv_iconst (v := 0) (q := 10) dX5_copy_9 (by decide) rfl ?_
  refine fv_bipush (v := 40) (q := 12) dX5_copy_10 (by decide) rfl ?_
  refine fl_copyi (q := 15) 0 0 40 dX5_copy_12 gX5_41 hu.sh.2.1 ht.sh.2.1 rfl rfl rfl (by decide) (by decide) (by decide) (by decide) (by decide) (Nat.le_of_ble_eq_true rfl) rfl ?_
  refine fv_aload_n (q := 16) dX5_copy_15 rfl rfl ?_
  refine fl_getR (q := 19) dX5_copy_16 fX5_15 hu.sh.1 rfl rfl ?_
  refine fv_iconst (v := 0) (q := 20) dX5_copy_19 (by decide) rfl ?_
  refine fv_aload_n (q := 21) dX5_copy_20 rfl rfl ?_
  refine fl_getR (q := 24) dX5_copy_21 fX5_15 ht.sh.1 rfl rfl ?_
  refine fv_iconst (v := 0) (q := 25) dX5_copy_24 (by decide) rfl ?_
  refine fv_bipush (v := 40) (q := 27) dX5_copy_25 (by decide) rfl ?_
  refine fl_copyi (q := 30) 0 0 40 dX5_copy_27 gX5_41 hu.sh.2.2.1 ht.sh.2.2.1 rfl rfl rfl (by decide) (by decide) (by decide) (by decide) (by decide) (Nat.le_of_ble_eq_true rfl) rfl ?_
  refine fv_aload_n (q := 31) dX5_copy_30 rfl rfl ?_
  refine fl_getR (q := 34) dX5_copy_31 fX5_18 hu.sh.1 rfl rfl ?_
  refine fv_iconst (v := 0) (q := 35) dX5_copy_34 (by decide) rfl ?_
  refine fv_aload_n (q := 36) dX5_copy_35 rfl rfl ?_
  refine fl_getR (q := 39) dX5_copy_36 fX5_18 ht.sh.1 rfl rfl ?_
  refine fv_iconst (v := 0) (q := 40) dX5_copy_39 (by decide) rfl ?_
  refine fv_bipush (v := 40) (q := 42) dX5_copy_40 (by decide) rfl ?_
  refine fl_copyi (q := 45) 0 0 40 dX5_copy_42 gX5_41 hu.sh.2.2.2 ht.sh.2.2.2 rfl rfl rfl (by decide) (by decide) (by decide) (by decide) (by decide) (Nat.le_of_ble_eq_true rfl) rfl ?_
  refine fv_aload_n (q := 46) dX5_copy_45 rfl rfl ?_
  refine fv_aload_n (q := 47) dX5_copy_46 rfl rfl ?_
  refine fl_getI (q := 50) dX5_copy_47 fX5_21 hu.sh.1 rfl rfl ?_
  refine fv_top (y := D u 3) (by simp only [up, cpa, n0, n1, n2, n3, if_false]) ?_
  refine fl_putI (q := 53) dX5_copy_50 fX5_21 ht.sh.1 rfl rfl rfl rfl ?_
  refine fv_aload_n (q := 54) dX5_copy_53 rfl rfl ?_
  refine fv_aload_n (q := 55) dX5_copy_54 rfl rfl ?_
  refine fl_getI (q := 58) dX5_copy_55 fX5_25 hu.sh.1 rfl rfl ?_
  refine fv_top (y := D u 4) (by simp only [up, cpa, n0, n1, n2, n3, if_false]) ?_
  refine fl_putI (q := 61) dX5_copy_58 fX5_25 ht.sh.1 rfl rfl rfl rfl ?_
  refine fv_aload_n (q := 62) dX5_copy_61 rfl rfl ?_
  refine fv_aload_n (q := 63) dX5_copy_62 rfl rfl ?_
  refine fl_getI (q := 66) dX5_copy_63 fX5_28 hu.sh.1 rfl rfl ?_
  refine fv_top (y := D u 5) (by simp only [up, cpa, n0, n1, n2, n3, if_false]) ?_
  refine fl_putI (q := 69) dX5_copy_66 fX5_28 ht.sh.1 rfl rfl rfl rfl ?_
  refine fv_aload_n (q := 70) dX5_copy_69 rfl rfl ?_
  refine fv_aload_n (q := 71) dX5_copy_70 rfl rfl ?_
  refine fl_getI (q := 74) dX5_copy_71 fX5_31 hu.sh.1 rfl rfl ?_
  refine fv_top (y := D u 6) (by simp only [up, cpa, n0, n1, n2, n3, if_false]) ?_
  refine fl_putI (q := 77) dX5_copy_74 fX5_31 ht.sh.1 rfl rfl rfl rfl ?_
  refine fv_aload_n (q := 78) dX5_copy_77 rfl rfl ?_
  refine fv_aload_n (q := 79) dX5_copy_78 rfl rfl ?_
  refine fl_getI (q := 82) dX5_copy_79 fX5_34 hu.sh.1 rfl rfl ?_
  refine fv_top (y := D u 7) (by simp only [up, cpa, n0, n1, n2, n3, if_false]) ?_
  refine fl_putI (q := 85) dX5_copy_82 fX5_34 ht.sh.1 rfl rfl rfl rfl ?_
  refine fv_aload_n (q := 86) dX5_copy_85 rfl rfl ?_
  refine fv_aload_n (q := 87) dX5_copy_86 rfl rfl ?_
  refine fl_getI (q := 90) dX5_copy_87 fX5_37 hu.sh.1 rfl rfl ?_
  refine fv_top (y := D u 8) (by simp only [up, cpa, n0, n1, n2, n3, if_false]) ?_
  refine fl_putZ (q := 93) dX5_copy_90 fX5_37 ht.sh.1 rfl rfl rfl hz rfl ?_
  refine fv_vret dX5_copy_93 rfl rfl (Nat.le_refl _) ?_
  exact hPost _ _ _ ⟨rfl, rfl, copy_fin hd rfl rfl⟩
set_option maxHeartbeats 4000000 in
set_option maxRecDepth 100000 in
theorem c_add (t : Nat) (ht : TabIx t) (n : Nat) (p k w : Int32) (D : Nat → Nat → Int32) (J : Nat → Nat → Int64) (hn : D t 3 = nI n) (h40 : n < 40) : FD yX5_add cX5_add 4 none 0 [.ref t, .int p, .int k, .int w] D J (fun res D' J' => res = none ∧ J' = J ∧ D' = up (up (up (up D (t + 1) n p) (t + 2) n k) (t + 3) n w) t 3 (nI (n + 1))) := by
  refine FD.of (by decide) rfl (Nat.le_of_ble_eq_true rfl) (fun Post hPost => ?_)
  show FV _ _ _ _ _ _ _ _ _ _ _ _ [_, _, _, _] [] _
  refine fv_aload_n (q := 1) dX5_add_0 rfl rfl ?_
  refine fl_getI (q := 4) dX5_add_1 fX5_21 ht.sh.1 rfl rfl ?_
  refine fv_bipush (v := 40) (q := 6) dX5_add_4 (by decide) rfl ?_
  refine fv_icmp_lt (q := 9) 10 dX5_add_6 (by decide) rfl (fun c6 => ?_) (fun c6 => absurd (by rw [hn]; exact nI_lt h40 (by decide)) c6)
  refine fv_aload_n (q := 11) dX5_add_10 rfl rfl ?_
  refine fl_getR (q := 14) dX5_add_11 fX5_9 ht.sh.1 rfl rfl ?_
  refine fv_aload_n (q := 15) dX5_add_14 rfl rfl ?_
  refine fl_getI (q := 18) dX5_add_15 fX5_21 ht.sh.1 rfl rfl ?_
  refine fv_iload_n (q := 19) dX5_add_18 rfl rfl ?_
  refine fl_iast (q := 20) n dX5_add_19 ht.sh.2.1 (by decide) hn h40 rfl ?_
  refine fv_aload_n (q := 21) dX5_add_20 rfl rfl ?_
  refine fl_getR (q := 24) dX5_add_21 fX5_15 ht.sh.1 rfl rfl ?_
  refine fv_aload_n (q := 25) dX5_add_24 rfl rfl ?_
  refine fl_getI (q := 28) dX5_add_25 fX5_21 ht.sh.1 rfl rfl ?_
  refine fv_iload_n (q := 29) dX5_add_28 rfl rfl ?_
  refine fl_iast (q := 30) n dX5_add_29 ht.sh.2.2.1 (by decide) (by simp only [up_n _ _ _ (show t ≠ t + 1 by omega)]; exact hn) h40 rfl ?_
  refine fv_aload_n (q := 31) dX5_add_30 rfl rfl ?_
  refine fl_getR (q := 34) dX5_add_31 fX5_18 ht.sh.1 rfl rfl ?_
  refine fv_aload_n (q := 35) dX5_add_34 rfl rfl ?_
  refine fl_getI (q := 38) dX5_add_35 fX5_21 ht.sh.1 rfl rfl ?_
  refine fv_iload_n (q := 39) dX5_add_38 rfl rfl ?_
  refine fl_iast (q := 40) n dX5_add_39 ht.sh.2.2.2 (by decide) (by simp only [up_n _ _ _ (show t ≠ t + 1 by omega), up_n _ _ _ (show t ≠ t + 2 by omega)]; exact hn) h40 rfl ?_
  refine fv_aload_n (q := 41) dX5_add_40 rfl rfl ?_
  refine fv_dup (q := 42) dX5_add_41 rfl rfl ?_
  refine fl_getI (q := 45) dX5_add_42 fX5_21 ht.sh.1 rfl rfl ?_
  refine fv_iconst (v := 1) (q := 46) dX5_add_45 (by decide) rfl ?_
  refine fv_iadd (q := 47) dX5_add_46 rfl ?_
  refine fv_top (y := nI (n + 1)) (by simp only [up_n _ _ _ (show t ≠ t + 1 by omega), up_n _ _ _ (show t ≠ t + 2 by omega), up_n _ _ _ (show t ≠ t + 3 by omega)]; rw [hn]; exact nI_1 n) ?_
  refine fl_putI (q := 50) dX5_add_47 fX5_21 ht.sh.1 rfl rfl rfl rfl ?_
  refine fv_vret dX5_add_50 rfl rfl (Nat.le_refl _) ?_
  exact hPost _ _ _ ⟨rfl, rfl, rfl⟩
theorem add_tab {D : Nat → Nat → Int32} {t n : Nat} {T : Nat → Int32} {p k w : Int32} (hT : TabOf D t T) (hn : n < 40) : TabOf (up (up (up (up D (t + 1) n p) (t + 2) n k) (t + 3) n w) t 3 (nI (n + 1))) t (addT T n p k w) := by
  refine ⟨fun f hf => ?_, fun r hr => ?_, fun r hr => ?_, fun r hr => ?_⟩
  · rw [up_s, up_n _ _ _ (by omega), up_n _ _ _ (by omega), up_n _ _ _ (by omega)]
    by_cases h : f = 0
    · subst h; rw [show 3 + 0 = 3 from rfl, pk_us]; rfl
    · rw [pk_un (by omega), hT.1 f hf]
      unfold addT; rw [if_neg h, if_neg (by omega), if_neg (by omega), if_neg (by omega)]
  · rw [up_n _ _ _ (by omega), up_n _ _ _ (by omega), up_n _ _ _ (by omega), up_s]
    unfold pa addT
    rw [if_neg (by omega)]
    by_cases h : r = n
    · subst h; rw [pk_us, if_pos rfl]
    · rw [pk_un h, hT.2.1 r hr, if_neg (by omega), if_neg (by omega), if_neg (by omega)]; rfl
  · rw [up_n _ _ _ (by omega), up_n _ _ _ (by omega), up_s, up_n _ _ _ (by omega)]
    unfold ke addT
    rw [if_neg (by omega), if_neg (by omega)]
    by_cases h : r = n
    · subst h; rw [pk_us, if_pos rfl]
    · rw [pk_un h, hT.2.2.1 r hr, if_neg (by omega), if_neg (by omega)]; rfl
  · rw [up_n _ _ _ (by omega), up_s, up_n _ _ _ (by omega), up_n _ _ _ (by omega)]
    unfold wo addT
    rw [if_neg (by omega), if_neg (by omega), if_neg (by omega)]
    by_cases h : r = n
    · subst h; rw [pk_us, if_pos rfl]
    · rw [pk_un h, hT.2.2.2 r hr, if_neg (by omega)]; rfl
def shf (f g : Nat → Int32) (r i : Nat) : Prop := ∀ j, j < 40 → g j = if r ≤ j ∧ j < i then f (j + 1) else f j
theorem shf_0 (f : Nat → Int32) (r : Nat) : shf f f r r := fun j _ => by rw [if_neg (by omega)]
theorem shf_s {f g : Nat → Int32} {r i : Nat} (h : shf f g r i) (hr : r ≤ i) (hi : i + 1 < 40) : shf f (upd g i (g (i + 1))) r (i + 1) := fun j hj => by
  by_cases q : j = i
  · subst q
    rw [pk_us, h (j + 1) hi, if_neg (by omega), if_pos (by omega)]
  · rw [pk_un q, h j hj]
    by_cases z : r ≤ j ∧ j < i
    · rw [if_pos z, if_pos (by omega)]
    · rw [if_neg z, if_neg (by omega)]
theorem drop_fin {D E : Nat → Nat → Int32} {t n r : Nat} {T : Nat → Int32} (hT : TabOf D t T) (h40 : n ≤ 40) (h1 : shf (D (t + 1)) (E (t + 1)) r (n - 1)) (h2 : shf (D (t + 2)) (E (t + 2)) r (n - 1)) (h3 : shf (D (t + 3)) (E (t + 3)) r (n - 1)) (h0 : E t = D t) : TabOf (up E t 3 (nI (n - 1))) t (dropT T n r) := by
  refine ⟨fun f hf => ?_, fun i hi => ?_, fun i hi => ?_, fun i hi => ?_⟩
  · rw [up_s, h0]
    by_cases h : f = 0
    · subst h; rw [show 3 + 0 = 3 from rfl, pk_us]; rfl
    · rw [pk_un (by omega), hT.1 f hf, drop_f (by omega) hf]
  · rw [up_n _ _ _ (by omega), h1 i hi, drop_pa h40 hi]
    by_cases z : r ≤ i ∧ i < n - 1
    · rw [if_pos z, if_pos (by omega)]; exact hT.2.1 _ (by omega)
    · rw [if_neg z, if_neg (by omega)]; exact hT.2.1 _ hi
  · rw [up_n _ _ _ (by omega), h2 i hi, drop_ke h40 hi]
    by_cases z : r ≤ i ∧ i < n - 1
    · rw [if_pos z, if_pos (by omega)]; exact hT.2.2.1 _ (by omega)
    · rw [if_neg z, if_neg (by omega)]; exact hT.2.2.1 _ hi
  · rw [up_n _ _ _ (by omega), h3 i hi, drop_wo h40 hi]
    by_cases z : r ≤ i ∧ i < n - 1
    · rw [if_pos z, if_pos (by omega)]; exact hT.2.2.2 _ (by omega)
    · rw [if_neg z, if_neg (by omega)]; exact hT.2.2.2 _ hi
set_option maxHeartbeats 4000000 in
set_option maxRecDepth 100000 in
theorem c_drop (t : Nat) (ht : TabIx t) (n r : Nat) (D : Nat → Nat → Int32) (J : Nat → Nat → Int64) (hn : D t 3 = nI n) (h40 : n ≤ 40) (hr : r < n) : FD yX5_drop cX5_drop 3 none 1 [.ref t, .int (nI r)] D J (fun res D' J' => res = none ∧ J' = J ∧ (∀ T, TabOf D t T → TabOf D' t (dropT T n r)) ∧ ∀ a, a ≠ t → a ≠ t + 1 → a ≠ t + 2 → a ≠ t + 3 → D' a = D a) := by
  refine FD.of (by decide) rfl (Nat.le_of_ble_eq_true rfl) (fun Post hPost => ?_)
  show FV _ _ _ _ _ _ _ _ _ _ _ _ [_, _, _] [] _
  have loop : ∀ i, i ≤ n - 1 → r ≤ i → ∀ E : Nat → Nat → Int32, E t = D t → shf (D (t + 1)) (E (t + 1)) r i → shf (D (t + 2)) (E (t + 2)) r i → shf (D (t + 3)) (E (t + 3)) r i → (∀ a, a ≠ t → a ≠ t + 1 → a ≠ t + 2 → a ≠ t + 3 → E a = D a) → FV cX5_drop 3 none yX5_drop.cls yX5_drop.name 1 0 0 Post 0 0 11 [some (.ref t), some (.int (nI r)), some (.int (nI i))] [] (lay E J) := by
    refine up_ind (fun i hi ih => ?_)
    intro hri E h0 h1 h2 h3 hf
    refine fv_iload_n (q := 12) dX5_drop_11 rfl rfl ?_
    refine fv_aload_n (q := 13) dX5_drop_12 rfl rfl ?_
    refine fl_getI (q := 16) dX5_drop_13 fX5_21 ht.sh.1 rfl rfl ?_
    refine fv_iconst (v := 1) (q := 17) dX5_drop_16 (by decide) rfl ?_
    refine fv_isub (q := 18) dX5_drop_17 rfl ?_
    refine fv_top (y := nI (n - 1)) (by rw [h0, hn]; exact pk_sub (b := 1) (by omega)) ?_
    refine fv_icmp_ge (q := 21) 69 dX5_drop_18 (by decide) rfl (fun c18 => ?_) (fun c18 => ?_)
    · rw [nI_leI (by omega) (by omega)] at c18
      have hin : i = n - 1 := by omega
      subst hin
      refine fv_aload_n (q := 70) dX5_drop_69 rfl rfl ?_
      refine fv_dup (q := 71) dX5_drop_70 rfl rfl ?_
      refine fl_getI (q := 74) dX5_drop_71 fX5_21 ht.sh.1 rfl rfl ?_
      refine fv_iconst (v := 1) (q := 75) dX5_drop_74 (by decide) rfl ?_
      refine fv_isub (q := 76) dX5_drop_75 rfl ?_
      refine fv_top (y := nI (n - 1)) (by rw [h0, hn]; exact pk_sub (b := 1) (by omega)) ?_
      refine fl_putI (q := 79) dX5_drop_76 fX5_21 ht.sh.1 rfl rfl rfl rfl ?_
      refine fv_vret dX5_drop_79 rfl rfl (Nat.le_refl _) ?_
      refine hPost _ _ _ ⟨rfl, rfl, fun T hT => drop_fin hT h40 h1 h2 h3 h0, fun a g0 g1 g2 g3 => ?_⟩
      rw [up_n _ _ _ g0]; exact hf a g0 g1 g2 g3
    · rw [nI_leI (by omega) (by omega)] at c18
      refine fv_aload_n (q := 22) dX5_drop_21 rfl rfl ?_
      refine fl_getR (q := 25) dX5_drop_22 fX5_9 ht.sh.1 rfl rfl ?_
      refine fv_iload_n (q := 26) dX5_drop_25 rfl rfl ?_
      refine fv_aload_n (q := 27) dX5_drop_26 rfl rfl ?_
      refine fl_getR (q := 30) dX5_drop_27 fX5_9 ht.sh.1 rfl rfl ?_
      refine fv_iload_n (q := 31) dX5_drop_30 rfl rfl ?_
      refine fv_iconst (v := 1) (q := 32) dX5_drop_31 (by decide) rfl ?_
      refine fv_iadd (q := 33) dX5_drop_32 rfl ?_
      refine fv_top (nI_1 i) ?_
      refine fl_iald (q := 34) _ dX5_drop_33 ht.sh.2.1 (by decide) rfl (by omega) rfl ?_
      refine fl_iast (q := 35) _ dX5_drop_34 ht.sh.2.1 (by decide) rfl (by omega) rfl ?_
      refine fv_aload_n (q := 36) dX5_drop_35 rfl rfl ?_
      refine fl_getR (q := 39) dX5_drop_36 fX5_15 ht.sh.1 rfl rfl ?_
      refine fv_iload_n (q := 40) dX5_drop_39 rfl rfl ?_
      refine fv_aload_n (q := 41) dX5_drop_40 rfl rfl ?_
      refine fl_getR (q := 44) dX5_drop_41 fX5_15 ht.sh.1 rfl rfl ?_
      refine fv_iload_n (q := 45) dX5_drop_44 rfl rfl ?_
      refine fv_iconst (v := 1) (q := 46) dX5_drop_45 (by decide) rfl ?_
      refine fv_iadd (q := 47) dX5_drop_46 rfl ?_
      refine fv_top (nI_1 i) ?_
      refine fl_iald (q := 48) _ dX5_drop_47 ht.sh.2.2.1 (by decide) rfl (by omega) rfl ?_
      refine fv_top (y := E (t + 2) (i + 1)) (by rw [up_n _ _ _ (show t + 2 ≠ t + 1 by omega)]) ?_
      refine fl_iast (q := 49) _ dX5_drop_48 ht.sh.2.2.1 (by decide) rfl (by omega) rfl ?_
      refine fv_aload_n (q := 50) dX5_drop_49 rfl rfl ?_
      refine fl_getR (q := 53) dX5_drop_50 fX5_18 ht.sh.1 rfl rfl ?_
      refine fv_iload_n (q := 54) dX5_drop_53 rfl rfl ?_
      refine fv_aload_n (q := 55) dX5_drop_54 rfl rfl ?_
      refine fl_getR (q := 58) dX5_drop_55 fX5_18 ht.sh.1 rfl rfl ?_
      refine fv_iload_n (q := 59) dX5_drop_58 rfl rfl ?_
      refine fv_iconst (v := 1) (q := 60) dX5_drop_59 (by decide) rfl ?_
      refine fv_iadd (q := 61) dX5_drop_60 rfl ?_
      refine fv_top (nI_1 i) ?_
      refine fl_iald (q := 62) _ dX5_drop_61 ht.sh.2.2.2 (by decide) rfl (by omega) rfl ?_
      refine fv_top (y := E (t + 3) (i + 1)) (by rw [up_n _ _ _ (show t + 3 ≠ t + 2 by omega), up_n _ _ _ (show t + 3 ≠ t + 1 by omega)]) ?_
      refine fl_iast (q := 63) _ dX5_drop_62 ht.sh.2.2.2 (by decide) rfl (by omega) rfl ?_
      refine fv_iinc (v := _ + 1) (q := 66) (l' := [_, _, _]) dX5_drop_63 rfl rfl (by decide) rfl rfl rfl ?_
      refine fv_goto 11 dX5_drop_66 (by decide) ?_
      rw [nI_1]
      refine ih (by omega) (by omega) _ ?_ ?_ ?_ ?_ ?_
      · rw [up_n _ _ _ (by omega), up_n _ _ _ (by omega), up_n _ _ _ (by omega)]; exact h0
      · rw [up_n _ _ _ (by omega), up_n _ _ _ (by omega), up_s]; exact shf_s h1 (by omega) (by omega)
      · rw [up_n _ _ _ (by omega), up_s, up_n _ _ _ (by omega)]; exact shf_s h2 (by omega) (by omega)
      · rw [up_s, up_n _ _ _ (by omega), up_n _ _ _ (by omega)]; exact shf_s h3 (by omega) (by omega)
      · intro a g0 g1 g2 g3
        rw [up_n _ _ _ g3, up_n _ _ _ g2, up_n _ _ _ g1]; exact hf a g0 g1 g2 g3
  refine fv_aload_n (q := 1) dX5_drop_0 rfl rfl ?_
  refine fv_iload_n (q := 2) dX5_drop_1 rfl rfl ?_
  refine fl_callVi (As := [_]) (q := 5) dX5_drop_2 gX5_47 rfl ht.sh.1 rfl rfl (Nat.le_of_ble_eq_true rfl) rfl (by decide) (c_has t ht (nI r) D J) ?_
  refine fv_if_ne (q := 8) 9 dX5_drop_5 (by decide) rfl (fun c5 => ?_) (fun c5 => absurd c5 (by rw [hn, bi_n']; simp only [Bool.and_eq_true, decide_eq_true_eq]; exact ⟨nI_pos (by omega), nI_lt hr (by omega)⟩))
  refine fv_iload_n (q := 10) dX5_drop_9 rfl rfl ?_
  refine fv_istore_n (i := 2) (q := 11) (l' := [_, _, _]) dX5_drop_10 rfl (by decide) rfl rfl rfl ?_
  exact loop r (by omega) (Nat.le_refl _) D rfl (shf_0 _ _) (shf_0 _ _) (shf_0 _ _) (fun _ _ _ _ _ => rfl)
