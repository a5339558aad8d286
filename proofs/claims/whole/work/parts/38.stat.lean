theorem wth_t {x a b : Int32} (h1 : ¬ x < a) (h2 : ¬ b < x) : wth x a b = true := by
  unfold wth; simp [Int32.not_lt.mp h1, Int32.not_lt.mp h2]
theorem wth_f1 {x a b : Int32} (h1 : x < a) : wth x a b = false := by
  unfold wth; simp [Int32.not_le.mpr h1]
theorem wth_f2 {x a b : Int32} (h1 : b < x) : wth x a b = false := by
  unfold wth; simp [Int32.not_le.mpr h1]
theorem bi_t {b : Bool} (h : b = true) : (1 : Int32) = bi b := by rw [h]; rfl
theorem bi_f {b : Bool} (h : b = false) : (0 : Int32) = bi b := by rw [h]; rfl
set_option maxHeartbeats 4000000 in
set_option maxRecDepth 100000 in
theorem c_within (D : Nat → Nat → Int32) (J : Nat → Nat → Int64) (x a b : Int32) : FI yX6_within cX6_within 3 (some .boolean) 0 [.int x, .int a, .int b] D J (bi (wth x a b)) := by
  refine FI.of (by decide) rfl (Nat.le_of_ble_eq_true rfl) (fun Post hPost => ?_)
  show FV _ _ _ _ _ _ _ _ _ _ _ _ [_, _, _] [] _
  refine fv_iload_n (q := 1) dX6_within_0 rfl rfl ?_
  refine fv_iload_n (q := 2) dX6_within_1 rfl rfl ?_
  refine fv_icmp_lt (q := 5) 14 dX6_within_2 (by decide) rfl (fun c2 => ?_) (fun c2 => ?_)
  · refine fv_iconst (v := 0) (q := 15) dX6_within_14 (by decide) rfl ?_
    refine fv_zret dX6_within_15 rfl (by decide) rfl (Nat.le_refl _) ?_
    exact fi_r hPost (bi_f (wth_f1 c2))
  · refine fv_iload_n (q := 6) dX6_within_5 rfl rfl ?_
    refine fv_iload_n (q := 7) dX6_within_6 rfl rfl ?_
    refine fv_icmp_gt (q := 10) 14 dX6_within_7 (by decide) rfl (fun c7 => ?_) (fun c7 => ?_)
    · refine fv_iconst (v := 0) (q := 15) dX6_within_14 (by decide) rfl ?_
      refine fv_zret dX6_within_15 rfl (by decide) rfl (Nat.le_refl _) ?_
      exact fi_r hPost (bi_f (wth_f2 c7))
    · refine fv_iconst (v := 1) (q := 11) dX6_within_10 (by decide) rfl ?_
      refine fv_goto 15 dX6_within_11 (by decide) ?_
      refine fv_zret dX6_within_15 rfl (by decide) rfl (Nat.le_refl _) ?_
      exact fi_r hPost (bi_t (wth_t c2 c7))
set_option maxHeartbeats 4000000 in
set_option maxRecDepth 100000 in
theorem c_isPart (D : Nat → Nat → Int32) (J : Nat → Nat → Int64) (x : Int32) : FI yX6_isPart cX6_isPart 1 (some .boolean) 1 [.int x] D J (bi (wth x 0 5)) := by
  refine FI.of (by decide) rfl (Nat.le_of_ble_eq_true rfl) (fun Post hPost => ?_)
  show FV _ _ _ _ _ _ _ _ _ _ _ _ [_] [] _
  refine fv_iload_n (q := 1) dX6_isPart_0 rfl rfl ?_
  refine fv_iconst (v := 0) (q := 2) dX6_isPart_1 (by decide) rfl ?_
  refine fv_iconst (v := 5) (q := 3) dX6_isPart_2 (by decide) rfl ?_
  refine fl_callSi (As := [_, _, _]) (q := 6) dX6_isPart_3 gX6_162 rfl rfl (Nat.le_of_ble_eq_true rfl) rfl (by decide) (c_within D J _ (0) 5) ?_
  refine fv_zret dX6_isPart_6 rfl (bi_nar _) rfl (Nat.le_refl _) ?_
  exact hPost
set_option maxHeartbeats 4000000 in
set_option maxRecDepth 100000 in
theorem c_isOfFrame (D : Nat → Nat → Int32) (J : Nat → Nat → Int64) (x : Int32) : FI yX6_isOfFrame cX6_isOfFrame 1 (some .boolean) 1 [.int x] D J (bi (wth x 0 8)) := by
  refine FI.of (by decide) rfl (Nat.le_of_ble_eq_true rfl) (fun Post hPost => ?_)
  show FV _ _ _ _ _ _ _ _ _ _ _ _ [_] [] _
  refine fv_iload_n (q := 1) dX6_isOfFrame_0 rfl rfl ?_
  refine fv_iconst (v := 0) (q := 2) dX6_isOfFrame_1 (by decide) rfl ?_
  refine fv_bipush (v := 8) (q := 4) dX6_isOfFrame_2 (by decide) rfl ?_
  refine fl_callSi (As := [_, _, _]) (q := 7) dX6_isOfFrame_4 gX6_162 rfl rfl (Nat.le_of_ble_eq_true rfl) rfl (by decide) (c_within D J _ (0) 8) ?_
  refine fv_zret dX6_isOfFrame_7 rfl (bi_nar _) rfl (Nat.le_refl _) ?_
  exact hPost
set_option maxHeartbeats 4000000 in
set_option maxRecDepth 100000 in
theorem c_isKey (D : Nat → Nat → Int32) (J : Nat → Nat → Int64) (x : Int32) : FI yX6_isKey cX6_isKey 1 (some .boolean) 1 [.int x] D J (bi (isKeyB x)) := by
  refine FI.of (by decide) rfl (Nat.le_of_ble_eq_true rfl) (fun Post hPost => ?_)
  show FV _ _ _ _ _ _ _ _ _ _ _ _ [_] [] _
  refine fv_iload_n (q := 1) dX6_isKey_0 rfl rfl ?_
  refine fv_ldc (q := 3) dX6_isKey_1 kX6_209 rfl ?_
  refine fv_icmp_eq (q := 6) 17 dX6_isKey_3 (by decide) rfl (fun c3 => ?_) (fun c3 => ?_)
  · refine fv_iconst (v := 1) (q := 18) dX6_isKey_17 (by decide) rfl ?_
    refine fv_goto 22 dX6_isKey_18 (by decide) ?_
    refine fv_zret dX6_isKey_22 rfl (by decide) rfl (Nat.le_refl _) ?_
    exact fi_r hPost (bi_t (by unfold isKeyB; simp [c3]))
  · refine fv_iload_n (q := 7) dX6_isKey_6 rfl rfl ?_
    refine fv_bipush (v := (-99)) (q := 9) dX6_isKey_7 (by decide) rfl ?_
    refine fv_bipush (v := 99) (q := 11) dX6_isKey_9 (by decide) rfl ?_
    refine fl_callSi (As := [_, _, _]) (q := 14) dX6_isKey_11 gX6_162 rfl rfl (Nat.le_of_ble_eq_true rfl) rfl (by decide) (c_within D J _ (-99) 99) ?_
    refine fv_if_eq (q := 17) 21 dX6_isKey_14 (by decide) rfl (fun c14 => ?_) (fun c14 => ?_)
    · rw [bi_0] at c14
      refine fv_iconst (v := 0) (q := 22) dX6_isKey_21 (by decide) rfl ?_
      refine fv_zret dX6_isKey_22 rfl (by decide) rfl (Nat.le_refl _) ?_
      exact fi_r hPost (bi_f (by unfold isKeyB; simp [c3, c14]))
    · rw [bi_n'] at c14
      refine fv_iconst (v := 1) (q := 18) dX6_isKey_17 (by decide) rfl ?_
      refine fv_goto 22 dX6_isKey_18 (by decide) ?_
      refine fv_zret dX6_isKey_22 rfl (by decide) rfl (Nat.le_refl _) ?_
      exact fi_r hPost (bi_t (by unfold isKeyB; simp [c14]))
set_option maxHeartbeats 4000000 in
set_option maxRecDepth 100000 in
theorem c_isWorth (D : Nat → Nat → Int32) (J : Nat → Nat → Int64) (x : Int32) : FI yX6_isWorth cX6_isWorth 1 (some .boolean) 1 [.int x] D J (bi (isWorB x)) := by
  refine FI.of (by decide) rfl (Nat.le_of_ble_eq_true rfl) (fun Post hPost => ?_)
  show FV _ _ _ _ _ _ _ _ _ _ _ _ [_] [] _
  refine fv_iload_n (q := 1) dX6_isWorth_0 rfl rfl ?_
  refine fv_ldc (q := 3) dX6_isWorth_1 kX6_209 rfl ?_
  refine fv_icmp_eq (q := 6) 19 dX6_isWorth_3 (by decide) rfl (fun c3 => ?_) (fun c3 => ?_)
  · refine fv_iconst (v := 1) (q := 20) dX6_isWorth_19 (by decide) rfl ?_
    refine fv_goto 24 dX6_isWorth_20 (by decide) ?_
    refine fv_zret dX6_isWorth_24 rfl (by decide) rfl (Nat.le_refl _) ?_
    exact fi_r hPost (bi_t (by unfold isWorB; simp [c3]))
  · refine fv_iload_n (q := 7) dX6_isWorth_6 rfl rfl ?_
    refine fv_sipush (v := (-999)) (q := 10) dX6_isWorth_7 (by decide) rfl ?_
    refine fv_sipush (v := 999) (q := 13) dX6_isWorth_10 (by decide) rfl ?_
    refine fl_callSi (As := [_, _, _]) (q := 16) dX6_isWorth_13 gX6_162 rfl rfl (Nat.le_of_ble_eq_true rfl) rfl (by decide) (c_within D J _ (-999) 999) ?_
    refine fv_if_eq (q := 19) 23 dX6_isWorth_16 (by decide) rfl (fun c16 => ?_) (fun c16 => ?_)
    · rw [bi_0] at c16
      refine fv_iconst (v := 0) (q := 24) dX6_isWorth_23 (by decide) rfl ?_
      refine fv_zret dX6_isWorth_24 rfl (by decide) rfl (Nat.le_refl _) ?_
      exact fi_r hPost (bi_f (by unfold isWorB; simp [c3, c16]))
    · rw [bi_n'] at c16
      refine fv_iconst (v := 1) (q := 20) dX6_isWorth_19 (by decide) rfl ?_
      refine fv_goto 24 dX6_isWorth_20 (by decide) ?_
      refine fv_zret dX6_isWorth_24 rfl (by decide) rfl (Nat.le_refl _) ?_
      exact fi_r hPost (bi_t (by unfold isWorB; simp [c16]))
set_option maxHeartbeats 4000000 in
set_option maxRecDepth 100000 in
theorem c_isBound (D : Nat → Nat → Int32) (J : Nat → Nat → Int64) (x : Int32) : FI yX6_isBound cX6_isBound 1 (some .boolean) 1 [.int x] D J (bi (isBndB x)) := by
  refine FI.of (by decide) rfl (Nat.le_of_ble_eq_true rfl) (fun Post hPost => ?_)
  show FV _ _ _ _ _ _ _ _ _ _ _ _ [_] [] _
  refine fv_iload_n (q := 1) dX6_isBound_0 rfl rfl ?_
  refine fv_bipush (v := 99) (q := 3) dX6_isBound_1 (by decide) rfl ?_
  refine fv_icmp_eq (q := 6) 17 dX6_isBound_3 (by decide) rfl (fun c3 => ?_) (fun c3 => ?_)
  · refine fv_iconst (v := 1) (q := 18) dX6_isBound_17 (by decide) rfl ?_
    refine fv_goto 22 dX6_isBound_18 (by decide) ?_
    refine fv_zret dX6_isBound_22 rfl (by decide) rfl (Nat.le_refl _) ?_
    exact fi_r hPost (bi_t (by unfold isBndB; simp [c3]))
  · refine fv_iload_n (q := 7) dX6_isBound_6 rfl rfl ?_
    refine fv_bipush (v := (-20)) (q := 9) dX6_isBound_7 (by decide) rfl ?_
    refine fv_bipush (v := 20) (q := 11) dX6_isBound_9 (by decide) rfl ?_
    refine fl_callSi (As := [_, _, _]) (q := 14) dX6_isBound_11 gX6_162 rfl rfl (Nat.le_of_ble_eq_true rfl) rfl (by decide) (c_within D J _ (-20) 20) ?_
    refine fv_if_eq (q := 17) 21 dX6_isBound_14 (by decide) rfl (fun c14 => ?_) (fun c14 => ?_)
    · rw [bi_0] at c14
      refine fv_iconst (v := 0) (q := 22) dX6_isBound_21 (by decide) rfl ?_
      refine fv_zret dX6_isBound_22 rfl (by decide) rfl (Nat.le_refl _) ?_
      exact fi_r hPost (bi_f (by unfold isBndB; simp [c3, c14]))
    · rw [bi_n'] at c14
      refine fv_iconst (v := 1) (q := 18) dX6_isBound_17 (by decide) rfl ?_
      refine fv_goto 22 dX6_isBound_18 (by decide) ?_
      refine fv_zret dX6_isBound_22 rfl (by decide) rfl (Nat.le_refl _) ?_
      exact fi_r hPost (bi_t (by unfold isBndB; simp [c14]))
set_option maxHeartbeats 4000000 in
set_option maxRecDepth 100000 in
theorem c_heapAt (D : Nat → Nat → Int32) (J : Nat → Nat → Int64) (p m k : Nat) (hk : 1 ≤ k) (hk2 : k ≤ 20) (hm : m ≤ 40) (hp : p < m) : FI yX6_heapAt cX6_heapAt 6 (some .int) 0 [.int (nI p), .int (nI m), .int (nI k)] D J (nI (hpv p m k)) := by
  refine FI.of (by decide) rfl (Nat.le_of_ble_eq_true rfl) (fun Post hPost => ?_)
  show FV _ _ _ _ _ _ _ _ _ _ _ _ [_, _, _, _, _, _] [] _
  have hq : m / k ≤ 40 := Nat.le_trans (Nat.div_le_self m k) hm
  have hr : m % k < 20 := Nat.lt_of_lt_of_le (Nat.mod_lt m hk) hk2
  have hqr : m % k * (m / k + 1) ≤ 20 * 41 := Nat.mul_le_mul (by omega) (by omega)
  have hk0 : ¬ nI k = 0 := nI_ne0 (by omega) (by omega)
  refine fv_iload_n (q := 1) dX6_heapAt_0 rfl rfl ?_
  refine fv_iconst (v := 1) (q := 2) dX6_heapAt_1 (by decide) rfl ?_
  refine fv_icmp_ge (q := 5) 7 dX6_heapAt_2 (by decide) rfl (fun c2 => ?_) (fun c2 => absurd (show nI 1 ≤ nI k from nI_le hk (by omega)) c2)
  refine fv_iload_n (q := 8) dX6_heapAt_7 rfl rfl ?_
  refine fv_iload_n (q := 9) dX6_heapAt_8 rfl rfl ?_
  refine fv_idiv (q := 10) dX6_heapAt_9 hk0 rfl ?_
  refine fv_top (pk_div (by omega) (by omega) (by omega)) ?_
  refine fv_istore_n (i := 3) (q := 11) (l' := [_, _, _, _, _, _]) dX6_heapAt_10 rfl (by decide) rfl rfl rfl ?_
  refine fv_iload_n (q := 12) dX6_heapAt_11 rfl rfl ?_
  refine fv_iload_n (q := 13) dX6_heapAt_12 rfl rfl ?_
  refine fv_irem (q := 14) dX6_heapAt_13 hk0 rfl ?_
  refine fv_top (pk_rem (by omega) (by omega) (by omega)) ?_
  refine fv_istore (q := 16) (l' := [_, _, _, _, _, _]) dX6_heapAt_14 (by decide) rfl rfl rfl ?_
  refine fv_iload (q := 18) dX6_heapAt_16 rfl rfl ?_
  refine fv_iload_n (q := 19) dX6_heapAt_18 rfl rfl ?_
  refine fv_iconst (v := 1) (q := 20) dX6_heapAt_19 (by decide) rfl ?_
  refine fv_iadd (q := 21) dX6_heapAt_20 rfl ?_
  refine fv_top (nI_1 _) ?_
  refine fv_imul (q := 22) dX6_heapAt_21 rfl ?_
  refine fv_top (pk_mul _ _) ?_
  refine fv_istore (q := 24) (l' := [_, _, _, _, _, _]) dX6_heapAt_22 (by decide) rfl rfl rfl ?_
  refine fv_iload_n (q := 25) dX6_heapAt_24 rfl rfl ?_
  refine fv_iload (q := 27) dX6_heapAt_25 rfl rfl ?_
  refine fv_icmp_lt (q := 30) 35 dX6_heapAt_27 (by decide) rfl (fun c27 => ?_) (fun c27 => ?_)
  · rw [nI_ltI (by omega) (by omega)] at c27
    refine fv_iload_n (q := 36) dX6_heapAt_35 rfl rfl ?_
    refine fv_iload_n (q := 37) dX6_heapAt_36 rfl rfl ?_
    refine fv_iconst (v := 1) (q := 38) dX6_heapAt_37 (by decide) rfl ?_
    refine fv_iadd (q := 39) dX6_heapAt_38 rfl ?_
    refine fv_top (nI_1 _) ?_
    refine fv_idiv (q := 40) dX6_heapAt_39 (nI_ne0 (Nat.succ_pos _) (by omega)) rfl ?_
    refine fv_top (pk_div (by omega) (Nat.succ_pos _) (by omega)) ?_
    refine fv_iret dX6_heapAt_40 rfl rfl (Nat.le_refl _) ?_
    exact fi_r hPost (by unfold hpv; rw [if_pos (Or.inl c27)])
  · rw [nI_ltI (by omega) (by omega)] at c27
    refine fv_iload_n (q := 31) dX6_heapAt_30 rfl rfl ?_
    refine fv_iconst (v := 1) (q := 32) dX6_heapAt_31 (by decide) rfl ?_
    refine fv_icmp_ge (q := 35) 41 dX6_heapAt_32 (by decide) rfl (fun c32 => ?_) (fun c32 => ?_)
    · have c32b : 1 ≤ m / k := (nI_leI (by decide) (by omega)).mp (show nI 1 ≤ _ from c32)
      refine fv_iload (q := 43) dX6_heapAt_41 rfl rfl ?_
      refine fv_iload_n (q := 44) dX6_heapAt_43 rfl rfl ?_
      refine fv_iload (q := 46) dX6_heapAt_44 rfl rfl ?_
      refine fv_isub (q := 47) dX6_heapAt_46 rfl ?_
      refine fv_top (pk_sub (by omega)) ?_
      refine fv_iload_n (q := 48) dX6_heapAt_47 rfl rfl ?_
      refine fv_idiv (q := 49) dX6_heapAt_48 (nI_ne0 (by omega) (by omega)) rfl ?_
      refine fv_top (pk_div (by omega) (by omega) (by omega)) ?_
      refine fv_iadd (q := 50) dX6_heapAt_49 rfl ?_
      refine fv_top (nI_add _ _) ?_
      refine fv_iret dX6_heapAt_50 rfl rfl (Nat.le_refl _) ?_
      exact fi_r hPost (by unfold hpv; rw [if_neg (by omega)])
    · have c32b : ¬ 1 ≤ m / k := fun z => c32 (show nI 1 ≤ _ from nI_le z (by omega))
      refine fv_iload_n (q := 36) dX6_heapAt_35 rfl rfl ?_
      refine fv_iload_n (q := 37) dX6_heapAt_36 rfl rfl ?_
      refine fv_iconst (v := 1) (q := 38) dX6_heapAt_37 (by decide) rfl ?_
      refine fv_iadd (q := 39) dX6_heapAt_38 rfl ?_
      refine fv_top (nI_1 _) ?_
      refine fv_idiv (q := 40) dX6_heapAt_39 (nI_ne0 (Nat.succ_pos _) (by omega)) rfl ?_
      refine fv_top (pk_div (by omega) (Nat.succ_pos _) (by omega)) ?_
      refine fv_iret dX6_heapAt_40 rfl rfl (Nat.le_refl _) ?_
      exact fi_r hPost (by unfold hpv; rw [if_pos (Or.inr (by omega))])
theorem dw_pos (s : Int32) : ∃ m, m < 2147483648 ∧ dw s = nI m := by
  unfold dw
  obtain ⟨m, h1, h2⟩ : ∃ m, m < 2147483648 ∧ ((s.toInt64 * 1103515245 + 12345) &&& 2147483647 : Int64) = lN m := by
    generalize (s.toInt64 * 1103515245 + 12345 : Int64) = x
    refine ⟨x.toBitVec.toNat % 2147483648, Nat.mod_lt _ (by decide), ?_⟩
    have e : x = lN x.toBitVec.toNat := by
      apply Int64.toBitVec_inj.mp
      show x.toBitVec = BitVec.ofNat 64 x.toBitVec.toNat
      simp
    have e2 := fb_maskL x.toBitVec.toNat 31
    rw [← e] at e2
    exact e2
  rw [h2, lN_i]
  exact ⟨m, h1, rfl⟩
set_option maxHeartbeats 4000000 in
set_option maxRecDepth 100000 in
theorem c_draw (D : Nat → Nat → Int32) (J : Nat → Nat → Int64) (m : Int32) (hm : 1 ≤ m) : FD yX6_draw cX6_draw 2 (some .int) 0 [.ref 0, .int m] D J (fun res D' J' => res = some (.int (dv (dw (D 0 9)) m)) ∧ J' = J ∧ D' = up D 0 9 (dw (D 0 9))) := by
  refine FD.of (by decide) rfl (Nat.le_of_ble_eq_true rfl) (fun Post hPost => ?_)
  show FV _ _ _ _ _ _ _ _ _ _ _ _ [_, _] [] _
  refine fv_aload_n (q := 1) dX6_draw_0 rfl rfl ?_
  refine fv_aload_n (q := 2) dX6_draw_1 rfl rfl ?_
  refine fl_getI (q := 5) dX6_draw_2 fX6_58 sh0 rfl rfl ?_
  refine fv_i2l (q := 6) dX6_draw_5 rfl ?_
  refine fv_ldc2 (q := 9) dX6_draw_6 kX6_231 rfl ?_
  refine fv_lmul (q := 10) dX6_draw_9 rfl ?_
  refine fv_ldc2 (q := 13) dX6_draw_10 kX6_233 rfl ?_
  refine fv_ladd (q := 14) dX6_draw_13 rfl ?_
  refine fv_ldc2 (q := 17) dX6_draw_14 kX6_235 rfl ?_
  refine fv_land (q := 18) dX6_draw_17 rfl ?_
  refine fv_l2i (q := 19) dX6_draw_18 rfl ?_
  refine fv_top (y := dw (D 0 9)) rfl ?_
  refine fl_putI (q := 22) dX6_draw_19 fX6_58 sh0 rfl rfl rfl rfl ?_
  refine fv_iload_n (q := 23) dX6_draw_22 rfl rfl ?_
  refine fv_iconst (v := 1) (q := 24) dX6_draw_23 (by decide) rfl ?_
  refine fv_icmp_ge (q := 27) 31 dX6_draw_24 (by decide) rfl (fun c24 => ?_) (fun c24 => absurd hm c24)
  refine fv_aload_n (q := 32) dX6_draw_31 rfl rfl ?_
  refine fl_getI (q := 35) dX6_draw_32 fX6_58 sh0 rfl rfl ?_
  refine fv_top (y := dw (D 0 9)) (by rw [up_s, pk_us]) ?_
  refine fv_ldc (q := 37) dX6_draw_35 kX6_237 rfl ?_
  refine fv_idiv (q := 38) dX6_draw_37 (by decide) rfl ?_
  refine fv_iload_n (q := 39) dX6_draw_38 rfl rfl ?_
  refine fv_irem (q := 40) dX6_draw_39 (fun z => by rw [z] at hm; exact absurd hm (by decide)) rfl ?_
  refine fv_iret dX6_draw_40 rfl rfl (Nat.le_refl _) ?_
  exact hPost _ _ _ ⟨rfl, rfl, rfl⟩
