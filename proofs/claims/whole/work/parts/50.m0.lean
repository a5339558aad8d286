/-! the model: small methods -/
def MT (D : Nat → Nat → Int32) (a : Nat) (T : Nat → Int32) : Prop := ∀ x, x < 126 → D a x = T x
def ahB (T : Nat → Int32) (p k : Int32) (x e : Nat) : Bool := decide (p.toInt < pz T e ∨ (p.toInt = pz T e ∧ ((okk T k).toInt < oz T e ∨ ((okk T k).toInt = oz T e ∧ x < e))))
theorem ahB_bf (T : Nat → Int32) (x e : Nat) : ahB T (pa T x) (ke T x) x e = bf T x e := rfl
theorem fa_ne {a b : Int32} (h : ¬ a = b) : a.toInt ≠ b.toInt := fun z => h ((fa_eq a b).mpr z)
set_option maxHeartbeats 4000000 in
set_option maxRecDepth 100000 in
theorem m_in (D : Nat → Nat → Int32) (J : Nat → Nat → Int64) (x a b : Int32) : FI yX7_in cX7_in 3 (some .boolean) 0 [.int x, .int a, .int b] D J (bi (wth x a b)) := by
  refine FI.of (by decide) rfl (Nat.le_of_ble_eq_true rfl) (fun Post hPost => ?_)
  show FV _ _ _ _ _ _ _ _ _ _ _ _ [_, _, _] [] _
  refine fv_iload_n (q := 1) dX7_in_0 rfl rfl ?_
  refine fv_iload_n (q := 2) dX7_in_1 rfl rfl ?_
  refine fv_icmp_lt (q := 5) 14 dX7_in_2 (by decide) rfl (fun c2 => ?_) (fun c2 => ?_)
  · refine fv_iconst (v := 0) (q := 15) dX7_in_14 (by decide) rfl ?_
    refine fv_zret dX7_in_15 rfl (by decide) rfl (Nat.le_refl _) ?_
    exact fi_r hPost (by unfold wth bi; rw [fa_lt] at c2; simp only [fa_le]; rw [if_neg (by simp only [Bool.and_eq_true, decide_eq_true_eq]; omega)])
  · refine fv_iload_n (q := 6) dX7_in_5 rfl rfl ?_
    refine fv_iload_n (q := 7) dX7_in_6 rfl rfl ?_
    refine fv_icmp_gt (q := 10) 14 dX7_in_7 (by decide) rfl (fun c7 => ?_) (fun c7 => ?_)
    · refine fv_iconst (v := 0) (q := 15) dX7_in_14 (by decide) rfl ?_
      refine fv_zret dX7_in_15 rfl (by decide) rfl (Nat.le_refl _) ?_
      exact fi_r hPost (by unfold wth bi; rw [fa_lt] at c2; rw [fa_lt] at c7; simp only [fa_le]; rw [if_neg (by simp only [Bool.and_eq_true, decide_eq_true_eq]; omega)])
    · refine fv_iconst (v := 1) (q := 11) dX7_in_10 (by decide) rfl ?_
      refine fv_goto 15 dX7_in_11 (by decide) ?_
      refine fv_zret dX7_in_15 rfl (by decide) rfl (Nat.le_refl _) ?_
      exact fi_r hPost (by unfold wth bi; rw [fa_lt] at c2; rw [fa_lt] at c7; simp only [fa_le]; rw [if_pos (by simp only [Bool.and_eq_true, decide_eq_true_eq]; omega)])
set_option maxHeartbeats 4000000 in
set_option maxRecDepth 100000 in
theorem m_less (D : Nat → Nat → Int32) (J : Nat → Nat → Int64) (a b : Nat) (ha : a < 2 ^ 31) (hb : b < 2 ^ 31) : FI yX7_less cX7_less 2 (some .int) 0 [.int (nI a), .int (nI b)] D J (nI (if a < b then a else b)) := by
  refine FI.of (by decide) rfl (Nat.le_of_ble_eq_true rfl) (fun Post hPost => ?_)
  show FV _ _ _ _ _ _ _ _ _ _ _ _ [_, _] [] _
  refine fv_iload_n (q := 1) dX7_less_0 rfl rfl ?_
  refine fv_iload_n (q := 2) dX7_less_1 rfl rfl ?_
  refine fv_icmp_ge (q := 5) 9 dX7_less_2 (by decide) rfl (fun c2 => ?_) (fun c2 => ?_)
  · refine fv_iload_n (q := 10) dX7_less_9 rfl rfl ?_
    refine fv_iret dX7_less_10 rfl rfl (Nat.le_refl _) ?_
    rw [nI_leI hb ha] at c2
    exact fi_r hPost (by rw [if_neg (by omega)])
  · refine fv_iload_n (q := 6) dX7_less_5 rfl rfl ?_
    refine fv_goto 10 dX7_less_6 (by decide) ?_
    refine fv_iret dX7_less_10 rfl rfl (Nat.le_refl _) ?_
    rw [nI_leI hb ha] at c2
    exact fi_r hPost (by rw [if_pos (by omega)])
set_option maxHeartbeats 4000000 in
set_option maxRecDepth 100000 in
theorem m_lessI (D : Nat → Nat → Int32) (J : Nat → Nat → Int64) (a b : Int32) : FI yX7_less cX7_less 2 (some .int) 0 [.int a, .int b] D J (if a < b then a else b) := by
  refine FI.of (by decide) rfl (Nat.le_of_ble_eq_true rfl) (fun Post hPost => ?_)
  show FV _ _ _ _ _ _ _ _ _ _ _ _ [_, _] [] _
  refine fv_iload_n (q := 1) dX7_less_0 rfl rfl ?_
  refine fv_iload_n (q := 2) dX7_less_1 rfl rfl ?_
  refine fv_icmp_ge (q := 5) 9 dX7_less_2 (by decide) rfl (fun c2 => ?_) (fun c2 => ?_)
  · refine fv_iload_n (q := 10) dX7_less_9 rfl rfl ?_
    refine fv_iret dX7_less_10 rfl rfl (Nat.le_refl _) ?_
    rw [fa_le] at c2
    exact fi_r hPost (by rw [if_neg (by rw [fa_lt]; omega)])
  · refine fv_iload_n (q := 6) dX7_less_5 rfl rfl ?_
    refine fv_goto 10 dX7_less_6 (by decide) ?_
    refine fv_iret dX7_less_10 rfl rfl (Nat.le_refl _) ?_
    rw [fa_le] at c2
    exact fi_r hPost (by rw [if_pos (by rw [fa_lt]; omega)])
set_option maxHeartbeats 4000000 in
set_option maxRecDepth 100000 in
theorem m_moreI (D : Nat → Nat → Int32) (J : Nat → Nat → Int64) (a b : Int32) : FI yX7_more cX7_more 2 (some .int) 0 [.int a, .int b] D J (if b < a then a else b) := by
  refine FI.of (by decide) rfl (Nat.le_of_ble_eq_true rfl) (fun Post hPost => ?_)
  show FV _ _ _ _ _ _ _ _ _ _ _ _ [_, _] [] _
  refine fv_iload_n (q := 1) dX7_more_0 rfl rfl ?_
  refine fv_iload_n (q := 2) dX7_more_1 rfl rfl ?_
  refine fv_icmp_le (q := 5) 9 dX7_more_2 (by decide) rfl (fun c2 => ?_) (fun c2 => ?_)
  · refine fv_iload_n (q := 10) dX7_more_9 rfl rfl ?_
    refine fv_iret dX7_more_10 rfl rfl (Nat.le_refl _) ?_
    rw [fa_le] at c2
    exact fi_r hPost (by rw [if_neg (by rw [fa_lt]; omega)])
  · refine fv_iload_n (q := 6) dX7_more_5 rfl rfl ?_
    refine fv_goto 10 dX7_more_6 (by decide) ?_
    refine fv_iret dX7_more_10 rfl rfl (Nat.le_refl _) ?_
    rw [fa_le] at c2
    exact fi_r hPost (by rw [if_pos (by rw [fa_lt]; omega)])
set_option maxHeartbeats 4000000 in
set_option maxRecDepth 100000 in
theorem m_orderOf (a : Nat) (ha : shL[a]? = some (.inl (0, 126))) (D : Nat → Nat → Int32) (J : Nat → Nat → Int64) (T : Nat → Int32) (hM : MT D a T) (k : Int32) : FI yX7_orderOf cX7_orderOf 2 (some .int) 0 [.ref a, .int k] D J (okk T k) := by
  refine FI.of (by decide) rfl (Nat.le_of_ble_eq_true rfl) (fun Post hPost => ?_)
  show FV _ _ _ _ _ _ _ _ _ _ _ _ [_, _] [] _
  refine fv_iload_n (q := 1) dX7_orderOf_0 rfl rfl ?_
  refine fv_ldc (q := 3) dX7_orderOf_1 kX7_66 rfl ?_
  refine fv_icmp_ne (q := 6) 18 dX7_orderOf_3 (by decide) rfl (fun c3 => ?_) (fun c3 => ?_)
  · refine fv_iload_n (q := 19) dX7_orderOf_18 rfl rfl ?_
    refine fv_iret dX7_orderOf_19 rfl rfl (Nat.le_refl _) ?_
    exact fi_r hPost (by unfold okk; rw [if_neg (fun z => c3 z.1)])
  · refine fv_aload_n (q := 7) dX7_orderOf_6 rfl rfl ?_
    refine fv_iconst (v := 5) (q := 8) dX7_orderOf_7 (by decide) rfl ?_
    refine fl_iald (q := 9) 5 dX7_orderOf_8 ha (by decide) rfl (by decide) rfl ?_
    refine fv_top (y := T 5) (hM 5 (by decide)) ?_
    refine fv_iconst (v := 1) (q := 10) dX7_orderOf_9 (by decide) rfl ?_
    refine fv_icmp_ne (q := 13) 18 dX7_orderOf_10 (by decide) rfl (fun c10 => ?_) (fun c10 => ?_)
    · refine fv_iload_n (q := 19) dX7_orderOf_18 rfl rfl ?_
      refine fv_iret dX7_orderOf_19 rfl rfl (Nat.le_refl _) ?_
      exact fi_r hPost (by unfold okk; rw [if_neg (fun z => c10 z.2)])
    · refine fv_ldc (q := 15) dX7_orderOf_13 kX7_67 rfl ?_
      refine fv_goto 19 dX7_orderOf_15 (by decide) ?_
      refine fv_iret dX7_orderOf_19 rfl rfl (Nat.le_refl _) ?_
      exact fi_r hPost (by unfold okk; rw [if_pos ⟨c3, c10⟩])
set_option maxHeartbeats 4000000 in
set_option maxRecDepth 100000 in
theorem m_isAhead (a : Nat) (ha : shL[a]? = some (.inl (0, 126))) (D : Nat → Nat → Int32) (J : Nat → Nat → Int64) (T : Nat → Int32) (hM : MT D a T) (p k : Int32) (x e : Nat) (hx : x ≤ 40) (he : e < 40) : FI yX7_isAhead cX7_isAhead 7 (some .boolean) 1 [.ref a, .int p, .int k, .int (nI x), .int (nI e)] D J (bi (ahB T p k x e)) := by
  refine FI.of (by decide) rfl (Nat.le_of_ble_eq_true rfl) (fun Post hPost => ?_)
  show FV _ _ _ _ _ _ _ _ _ _ _ _ [_, _, _, _, _, _, _] [] _
  refine fv_aload_n (q := 1) dX7_isAhead_0 rfl rfl ?_
  refine fv_iload_n (q := 2) dX7_isAhead_1 rfl rfl ?_
  refine fl_callSi (As := [_, _]) (q := 5) dX7_isAhead_2 gX7_68 rfl rfl (Nat.le_of_ble_eq_true rfl) rfl (by decide) (m_orderOf a ha D J T hM k) ?_
  refine fv_istore (q := 7) (l' := [_, _, _, _, _, _, _]) dX7_isAhead_5 (by decide) rfl rfl rfl ?_
  refine fv_aload_n (q := 8) dX7_isAhead_7 rfl rfl ?_
  refine fv_aload_n (q := 9) dX7_isAhead_8 rfl rfl ?_
  refine fv_bipush (v := 46) (q := 11) dX7_isAhead_9 (by decide) rfl ?_
  refine fv_iload (q := 13) dX7_isAhead_11 rfl rfl ?_
  refine fv_iadd (q := 14) dX7_isAhead_13 rfl ?_
  refine fl_iald (q := 15) (46 + e) dX7_isAhead_14 ha (by decide) (nI_add 46 e) (by omega) rfl ?_
  refine fv_top (y := ke T e) (hM _ (by omega)) ?_
  refine fl_callSi (As := [_, _]) (q := 18) dX7_isAhead_15 gX7_68 rfl rfl (Nat.le_of_ble_eq_true rfl) rfl (by decide) (m_orderOf a ha D J T hM (ke T e)) ?_
  refine fv_istore (q := 20) (l' := [_, _, _, _, _, _, _]) dX7_isAhead_18 (by decide) rfl rfl rfl ?_
  refine fv_iload_n (q := 21) dX7_isAhead_20 rfl rfl ?_
  refine fv_aload_n (q := 22) dX7_isAhead_21 rfl rfl ?_
  refine fv_bipush (v := 6) (q := 24) dX7_isAhead_22 (by decide) rfl ?_
  refine fv_iload (q := 26) dX7_isAhead_24 rfl rfl ?_
  refine fv_iadd (q := 27) dX7_isAhead_26 rfl ?_
  refine fl_iald (q := 28) (6 + e) dX7_isAhead_27 ha (by decide) (nI_add 6 e) (by omega) rfl ?_
  refine fv_top (y := pa T e) (hM _ (by omega)) ?_
  refine fv_icmp_eq (q := 31) 48 dX7_isAhead_28 (by decide) rfl (fun c28 => ?_) (fun c28 => ?_)
  · rw [fa_eq] at c28
    refine fv_iload (q := 50) dX7_isAhead_48 rfl rfl ?_
    refine fv_iload (q := 52) dX7_isAhead_50 rfl rfl ?_
    refine fv_icmp_eq (q := 55) 70 dX7_isAhead_52 (by decide) rfl (fun c52 => ?_) (fun c52 => ?_)
    · rw [fa_eq] at c52
      refine fv_iload_n (q := 71) dX7_isAhead_70 rfl rfl ?_
      refine fv_iload (q := 73) dX7_isAhead_71 rfl rfl ?_
      refine fv_icmp_ge (q := 76) 80 dX7_isAhead_73 (by decide) rfl (fun c73 => ?_) (fun c73 => ?_)
      · rw [nI_leI (by omega) (by omega)] at c73
        refine fv_iconst (v := 0) (q := 81) dX7_isAhead_80 (by decide) rfl ?_
        refine fv_zret dX7_isAhead_81 rfl (by decide) rfl (Nat.le_refl _) ?_
        exact fi_r hPost (by unfold ahB bi pz oz od; rw [if_neg (by simp only [decide_eq_true_eq]; omega)])
      · rw [nI_leI (by omega) (by omega)] at c73
        refine fv_iconst (v := 1) (q := 77) dX7_isAhead_76 (by decide) rfl ?_
        refine fv_goto 81 dX7_isAhead_77 (by decide) ?_
        refine fv_zret dX7_isAhead_81 rfl (by decide) rfl (Nat.le_refl _) ?_
        exact fi_r hPost (by unfold ahB bi pz oz od; rw [if_pos (by simp only [decide_eq_true_eq]; omega)])
    · rw [fa_eq] at c52
      refine fv_iload (q := 57) dX7_isAhead_55 rfl rfl ?_
      refine fv_iload (q := 59) dX7_isAhead_57 rfl rfl ?_
      refine fv_icmp_ge (q := 62) 66 dX7_isAhead_59 (by decide) rfl (fun c59 => ?_) (fun c59 => ?_)
      · rw [fa_le] at c59
        refine fv_iconst (v := 0) (q := 67) dX7_isAhead_66 (by decide) rfl ?_
        refine fv_goto 81 dX7_isAhead_67 (by decide) ?_
        refine fv_zret dX7_isAhead_81 rfl (by decide) rfl (Nat.le_refl _) ?_
        exact fi_r hPost (by unfold ahB bi pz oz od; rw [if_neg (by simp only [decide_eq_true_eq]; omega)])
      · rw [fa_le] at c59
        refine fv_iconst (v := 1) (q := 63) dX7_isAhead_62 (by decide) rfl ?_
        refine fv_goto 81 dX7_isAhead_63 (by decide) ?_
        refine fv_zret dX7_isAhead_81 rfl (by decide) rfl (Nat.le_refl _) ?_
        exact fi_r hPost (by unfold ahB bi pz oz od; rw [if_pos (by simp only [decide_eq_true_eq]; omega)])
  · rw [fa_eq] at c28
    refine fv_iload_n (q := 32) dX7_isAhead_31 rfl rfl ?_
    refine fv_aload_n (q := 33) dX7_isAhead_32 rfl rfl ?_
    refine fv_bipush (v := 6) (q := 35) dX7_isAhead_33 (by decide) rfl ?_
    refine fv_iload (q := 37) dX7_isAhead_35 rfl rfl ?_
    refine fv_iadd (q := 38) dX7_isAhead_37 rfl ?_
    refine fl_iald (q := 39) (6 + e) dX7_isAhead_38 ha (by decide) (nI_add 6 e) (by omega) rfl ?_
    refine fv_top (y := pa T e) (hM _ (by omega)) ?_
    refine fv_icmp_ge (q := 42) 46 dX7_isAhead_39 (by decide) rfl (fun c39 => ?_) (fun c39 => ?_)
    · rw [fa_le] at c39
      refine fv_iconst (v := 0) (q := 47) dX7_isAhead_46 (by decide) rfl ?_
      refine fv_zret dX7_isAhead_47 rfl (by decide) rfl (Nat.le_refl _) ?_
      exact fi_r hPost (by unfold ahB bi pz oz od; rw [if_neg (by simp only [decide_eq_true_eq]; omega)])
    · rw [fa_le] at c39
      refine fv_iconst (v := 1) (q := 43) dX7_isAhead_42 (by decide) rfl ?_
      refine fv_goto 47 dX7_isAhead_43 (by decide) ?_
      refine fv_zret dX7_isAhead_47 rfl (by decide) rfl (Nat.le_refl _) ?_
      exact fi_r hPost (by unfold ahB bi pz oz od; rw [if_pos (by simp only [decide_eq_true_eq]; omega)])
set_option maxHeartbeats 4000000 in
set_option maxRecDepth 100000 in
theorem m_copies (a0 a1 n0 n1 i0 j0 : Nat) (h0 : shL[a0]? = some (.inl (0, n0))) (h1 : shL[a1]? = some (.inl (0, n1))) (hn0 : n0 < 2 ^ 31) (hn1 : n1 < 2 ^ 31) (hi0 : i0 + 126 ≤ n0) (hj0 : j0 + 126 ≤ n1) (hne : a0 ≠ a1) (D : Nat → Nat → Int32) (J : Nat → Nat → Int64) : FD yX7_copies cX7_copies 5 none 0 [.ref a0, .int (nI i0), .ref a1, .int (nI j0)] D J (fun res D' J' => res = none ∧ J' = J ∧ D' a1 = fb_put (D a1) (fun x => D a0 (i0 + x)) j0 126 ∧ ∀ c, c ≠ a1 → D' c = D c) := by
  refine FD.of (by decide) rfl (Nat.le_of_ble_eq_true rfl) (fun Post hPost => ?_)
  show FV _ _ _ _ _ _ _ _ _ _ _ _ [_, _, _, _, _] [] _
  have loop : ∀ i, i ≤ 126 → ∀ E : Nat → Nat → Int32, E a1 = fb_put (D a1) (fun x => D a0 (i0 + x)) j0 i → (∀ c, c ≠ a1 → E c = D c) → FV cX7_copies 5 none yX7_copies.cls yX7_copies.name 0 0 0 Post 0 0 3 [some (.ref a0), some (.int (nI i0)), some (.ref a1), some (.int (nI j0)), some (.int (nI i))] [] (lay E J) := by
    refine up_ind (fun i hi ih => ?_)
    intro E hE hf
    refine fv_iload (q := 5) dX7_copies_3 rfl rfl ?_
    refine fv_bipush (v := 126) (q := 7) dX7_copies_5 (by decide) rfl ?_
    refine fv_icmp_ge (q := 10) 28 dX7_copies_7 (by decide) rfl (fun c7 => ?_) (fun c7 => ?_)
    · rw [show (126 : Int32) = nI 126 from rfl, nI_leI (by omega) (by omega)] at c7
      have hin : i = 126 := by omega
      subst hin
      refine fv_vret dX7_copies_28 rfl rfl (Nat.le_refl _) ?_
      exact hPost _ _ _ ⟨rfl, rfl, hE, hf⟩
    · rw [show (126 : Int32) = nI 126 from rfl, nI_leI (by omega) (by omega)] at c7
      refine fv_aload_n (q := 11) dX7_copies_10 rfl rfl ?_
      refine fv_iload_n (q := 12) dX7_copies_11 rfl rfl ?_
      refine fv_iload (q := 14) dX7_copies_12 rfl rfl ?_
      refine fv_iadd (q := 15) dX7_copies_14 rfl ?_
      refine fv_aload_n (q := 16) dX7_copies_15 rfl rfl ?_
      refine fv_iload_n (q := 17) dX7_copies_16 rfl rfl ?_
      refine fv_iload (q := 19) dX7_copies_17 rfl rfl ?_
      refine fv_iadd (q := 20) dX7_copies_19 rfl ?_
      refine fl_iald (q := 21) (i0 + i) dX7_copies_20 h0 hn0 (nI_add i0 i) (by omega) rfl ?_
      refine fl_iast (q := 22) (j0 + i) dX7_copies_21 h1 hn1 (nI_add j0 i) (by omega) rfl ?_
      refine fv_iinc (v := _ + 1) (q := 25) (l' := [_, _, _, _, _]) dX7_copies_22 rfl rfl (by decide) rfl rfl rfl ?_
      refine fv_goto 3 dX7_copies_25 (by decide) ?_
      rw [nI_1]
      refine ih (by omega) _ ?_ (fun c hc => by rw [up_n _ _ _ hc]; exact hf c hc)
      rw [hf a0 hne, up_s, hE]
      exact fb_put_succ (D a1) (fun x => D a0 (i0 + x)) j0 i
  refine fv_iconst (v := 0) (q := 1) dX7_copies_0 (by decide) rfl ?_
  refine fv_istore (q := 3) (l' := [_, _, _, _, _]) dX7_copies_1 (by decide) rfl rfl rfl ?_
  exact loop 0 (Nat.zero_le _) D (fb_put_0 _ _ _).symm (fun _ _ => rfl)
