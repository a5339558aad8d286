set_option maxHeartbeats 4000000 in
set_option maxRecDepth 100000 in
theorem c_has (t : Nat) (ht : TabIx t) (r : Int32) (D : Nat → Nat → Int32) (J : Nat → Nat → Int64) : FI yX5_has cX5_has 2 (some .boolean) 0 [.ref t, .int r] D J (bi (decide (¬ r < 0) && decide (r < D t 3))) := by
  refine FC.of (by decide) rfl (Nat.le_of_ble_eq_true rfl) ?_
  show FV _ _ _ _ _ _ _ _ _ _ _ _ [_, _] [] _
  refine fv_iload_n (q := 1) dX5_has_0 rfl rfl ?_
  refine fv_if_lt (q := 4) 16 dX5_has_1 (by decide) rfl (fun c1 => ?_) (fun c1 => ?_)
  · refine fv_iconst (v := 0) (q := 17) dX5_has_16 (by decide) rfl ?_
    refine fv_zret dX5_has_17 rfl (by decide) rfl (Nat.le_refl _) ?_
    exact fi_ret (by simp_all [bi])
  · refine fv_iload_n (q := 5) dX5_has_4 rfl rfl ?_
    refine fv_aload_n (q := 6) dX5_has_5 rfl rfl ?_
    refine fl_getI (q := 9) dX5_has_6 fX5_21 ht.sh.1 rfl rfl ?_
    refine fv_icmp_ge (q := 12) 16 dX5_has_9 (by decide) rfl (fun c9 => ?_) (fun c9 => ?_)
    · refine fv_iconst (v := 0) (q := 17) dX5_has_16 (by decide) rfl ?_
      refine fv_zret dX5_has_17 rfl (by decide) rfl (Nat.le_refl _) ?_
      exact fi_ret (by simp_all [bi])
    · refine fv_iconst (v := 1) (q := 13) dX5_has_12 (by decide) rfl ?_
      refine fv_goto 17 dX5_has_13 (by decide) ?_
      refine fv_zret dX5_has_17 rfl (by decide) rfl (Nat.le_refl _) ?_
      exact fi_ret (by simp_all [bi])
