theorem ahB_w {T : Nat → Int32} {p k : Int32} {e : Nat} (he : e < 40) : ahB T p k 40 e = wldB T p k e := by
  unfold ahB wldB
  exact ndec (by omega)
set_option maxHeartbeats 4000000 in
set_option maxRecDepth 100000 in
theorem m_would (D : Nat → Nat → Int32) (J : Nat → Nat → Int64) (σ : Sg) (hX : MR D σ) (ok : SgOk σ) (p k : Int32) : FD yX7_would cX7_would 5 (some .int) 2 [.ref 124, .int p, .int k] D J (fun res D' J' => res = some (.int (f_would σ p k)) ∧ MR D' σ ∧ KM D D' J J') := by
  refine FD.of (by decide) rfl (Nat.le_of_ble_eq_true rfl) (fun Post hPost => ?_)
  show FV _ _ _ _ _ _ _ _ _ _ _ _ [_, _, _, _, _] [] _
  obtain ⟨T, n, P, I, B, s⟩ := σ
  have hM : MT D 125 T := hX.1
  have hP : PastM D P := hX.2.1
  have hI : ImgM D I := hX.2.2.1
  have hB : BookM D B := hX.2.2.2.1
  have hs : D 124 6 = s := hX.2.2.2.2
  have v : VT T n := ok.1
  have h40 := v.2.1
  refine fv_iload_n (q := 1) dX7_would_0 rfl rfl ?_
  refine fv_iconst (v := 0) (q := 2) dX7_would_1 (by decide) rfl ?_
  refine fv_iconst (v := 5) (q := 3) dX7_would_2 (by decide) rfl ?_
  refine fl_callSi (As := [_, _, _]) (q := 6) dX7_would_3 gX7_120 rfl rfl (Nat.le_of_ble_eq_true rfl) rfl (by decide) (m_in D J p 0 5) ?_
  refine fv_if_eq (q := 9) 16 dX7_would_6 (by decide) rfl (fun c6 => ?_) (fun c6 => ?_)
  · rw [bi_0] at c6
    refine fv_ldc (q := 18) dX7_would_16 kX7_157 rfl ?_
    refine fv_iret dX7_would_18 rfl rfl (Nat.le_refl _) ?_
    exact hPost _ _ _ ⟨by unfold f_would; rw [if_pos (by rw [c6, Bool.false_and])], hX, KM.rf⟩
  · rw [bi_n'] at c6
    refine fv_iload_n (q := 10) dX7_would_9 rfl rfl ?_
    refine fl_callSi (As := [_]) (q := 13) dX7_would_10 gX7_173 rfl rfl (Nat.le_of_ble_eq_true rfl) rfl (by decide) (m_isKey D J k) ?_
    refine fv_if_ne (q := 16) 19 dX7_would_13 (by decide) rfl (fun c13 => ?_) (fun c13 => ?_)
    · rw [bi_n'] at c13
      refine fv_iconst (v := 0) (q := 20) dX7_would_19 (by decide) rfl ?_
      refine fv_istore_n (i := 3) (q := 21) (l' := [_, _, _, _, _]) dX7_would_20 rfl (by decide) rfl rfl rfl ?_
      refine fv_iconst (v := 0) (q := 22) dX7_would_21 (by decide) rfl ?_
      refine fv_istore (q := 24) (l' := [_, _, _, _, _]) dX7_would_22 (by decide) rfl rfl rfl ?_
      have loop : ∀ i, i ≤ n → FV cX7_would 5 (some .int) yX7_would.cls yX7_would.name 2 0 0 Post 0 0 24 [some (.ref 124), some (.int p), some (.int k), some (.int (nI (fb_ct (fun e => !wldB T p k e) i))), some (.int (nI i))] [] (lay D J) := by
        refine up_ind (fun i hi ih => ?_)
        refine fv_iload (q := 26) dX7_would_24 rfl rfl ?_
        refine fv_aload_n (q := 27) dX7_would_26 rfl rfl ?_
        refine fl_getR (q := 30) dX7_would_27 fX7_7 sh124 rfl rfl ?_
        refine fv_iconst (v := 0) (q := 31) dX7_would_30 (by decide) rfl ?_
        refine fl_iald (q := 32) 0 dX7_would_31 sh125 (by decide) rfl (by decide) rfl ?_
        refine fv_top (y := nI n) ((hM 0 (by decide)).trans v.1) ?_
        refine fv_icmp_ge (q := 35) 65 dX7_would_32 (by decide) rfl (fun c32 => ?_) (fun c32 => ?_)
        · rw [nI_leI (by omega) (by omega)] at c32
          have hin : i = n := by omega
          subst hin
          refine fv_iload_n (q := 66) dX7_would_65 rfl rfl ?_
          refine fv_iret dX7_would_66 rfl rfl (Nat.le_refl _) ?_
          exact hPost _ _ _ ⟨by unfold f_would; rw [if_neg (by rw [c6, c13]; decide)], hX, KM.rf⟩
        · rw [nI_leI (by omega) (by omega)] at c32
          refine fv_iload_n (q := 36) dX7_would_35 rfl rfl ?_
          refine fv_aload_n (q := 37) dX7_would_36 rfl rfl ?_
          refine fl_getR (q := 40) dX7_would_37 fX7_7 sh124 rfl rfl ?_
          refine fv_iload_n (q := 41) dX7_would_40 rfl rfl ?_
          refine fv_iload_n (q := 42) dX7_would_41 rfl rfl ?_
          refine fv_bipush (v := 40) (q := 44) dX7_would_42 (by decide) rfl ?_
          refine fv_iload (q := 46) dX7_would_44 rfl rfl ?_
          refine fl_callSi (As := [_, _, _, _, _]) (q := 49) dX7_would_46 gX7_72 rfl rfl (Nat.le_of_ble_eq_true rfl) rfl (by decide) (m_isAhead 125 sh125 D J T hM p k 40 i (by decide) (by omega)) ?_
          refine fv_top (y := bi (wldB T p k i)) (by rw [ahB_w (by omega)]) ?_
          refine fv_if_eq (q := 52) 56 dX7_would_49 (by decide) rfl (fun c49 => ?_) (fun c49 => ?_)
          · rw [bi_0] at c49
            refine fv_iconst (v := 1) (q := 57) dX7_would_56 (by decide) rfl ?_
            refine fv_iadd (q := 58) dX7_would_57 rfl ?_
            refine fv_istore_n (i := 3) (q := 59) (l' := [_, _, _, _, _]) dX7_would_58 rfl (by decide) rfl rfl rfl ?_
            refine fv_iinc (v := _ + 1) (q := 62) (l' := [_, _, _, _, _]) dX7_would_59 rfl rfl (by decide) rfl rfl rfl ?_
            refine fv_goto 24 dX7_would_62 (by decide) ?_
            have h9 := ih (by omega)
            rw [ct_t (p := fun e => !wldB T p k e) (by show (!wldB T p k i) = true; rw [c49]; rfl)] at h9
            rw [nI_1, nI_1]
            exact h9
          · rw [bi_n'] at c49
            refine fv_iconst (v := 0) (q := 53) dX7_would_52 (by decide) rfl ?_
            refine fv_goto 57 dX7_would_53 (by decide) ?_
            refine fv_iadd (q := 58) dX7_would_57 rfl ?_
            refine fv_istore_n (i := 3) (q := 59) (l' := [_, _, _, _, _]) dX7_would_58 rfl (by decide) rfl rfl rfl ?_
            refine fv_iinc (v := _ + 1) (q := 62) (l' := [_, _, _, _, _]) dX7_would_59 rfl rfl (by decide) rfl rfl rfl ?_
            refine fv_goto 24 dX7_would_62 (by decide) ?_
            have h9 := ih (by omega)
            rw [ct_f (p := fun e => !wldB T p k e) (by show (!wldB T p k i) = false; rw [c49]; rfl)] at h9
            rw [nI_1, show (0 : Int32) = nI 0 from rfl, nI_add]
            exact h9
      exact loop 0 (Nat.zero_le _)
    · rw [bi_0] at c13
      refine fv_ldc (q := 18) dX7_would_16 kX7_157 rfl ?_
      refine fv_iret dX7_would_18 rfl rfl (Nat.le_refl _) ?_
      exact hPost _ _ _ ⟨by unfold f_would; rw [if_pos (by rw [c13, Bool.and_false])], hX, KM.rf⟩
theorem chg_m {T f : Nat → Int32} {r : Nat} {k w : Int32} (h : ∀ x, x < 126 → f x = T x) : ∀ x, x < 126 → upd (upd f (46 + r) k) (86 + r) w x = chgT T r k w x := by
  intro x hx
  unfold chgT
  by_cases c : x = 46 + r
  · subst c; rw [if_pos rfl, pk_un (by omega), pk_us]
  · rw [if_neg c]
    by_cases d : x = 86 + r
    · subst d; rw [if_pos rfl, pk_us]
    · rw [if_neg d, pk_un d, pk_un c]; exact h x hx
theorem frm_m {T f : Nat → Int32} {m b e l : Int32} (h : ∀ x, x < 126 → f x = T x) : ∀ x, x < 126 → upd (upd (upd (upd f 1 m) 2 b) 3 e) 4 l x = frmT T m b e l x := by
  intro x hx
  unfold frmT
  by_cases c : x = 1
  · subst c; rw [if_pos rfl, pk_un (by decide), pk_un (by decide), pk_un (by decide), pk_us]
  · rw [if_neg c]
    by_cases d : x = 2
    · subst d; rw [if_pos rfl, pk_un (by decide), pk_un (by decide), pk_us]
    · rw [if_neg d]
      by_cases g : x = 3
      · subst g; rw [if_pos rfl, pk_un (by decide), pk_us]
      · rw [if_neg g]
        by_cases i : x = 4
        · subst i; rw [if_pos rfl, pk_us]
        · rw [if_neg i, pk_un i, pk_un g, pk_un d, pk_un c]; exact h x hx
theorem ahd_m {T f : Nat → Int32} {a : Int32} (h : ∀ x, x < 126 → f x = T x) : ∀ x, x < 126 → upd f 5 a x = ahdT T a x := by
  intro x hx
  unfold ahdT
  by_cases c : x = 5
  · subst c; rw [if_pos rfl, pk_us]
  · rw [if_neg c, pk_un c]; exact h x hx
theorem PastM.kr {D E : Nat → Nat → Int32} {P : List (Nat → Int32)} (h : PastM D P) (hK : KR D E) : PastM E P := h.of (hK.1 3 (by decide)) (hK.2 127 (by decide))
set_option maxHeartbeats 4000000 in
set_option maxRecDepth 100000 in
theorem m_change (D : Nat → Nat → Int32) (J : Nat → Nat → Int64) (σ : Sg) (hX : MR D σ) (ok : SgOk σ) (r k w : Int32) : FD yX7_change cX7_change 5 (some .int) 3 [.ref 124, .int r, .int k, .int w] D J (fun res D' J' => res = some (.int (f_change σ r k w).1) ∧ MR D' (f_change σ r k w).2 ∧ KM D D' J J') := by
  refine FD.of (by decide) rfl (Nat.le_of_ble_eq_true rfl) (fun Post hPost => ?_)
  show FV _ _ _ _ _ _ _ _ _ _ _ _ [_, _, _, _, _] [] _
  obtain ⟨T, n, P, I, B, s⟩ := σ
  have hM : MT D 125 T := hX.1
  have hP : PastM D P := hX.2.1
  have hI : ImgM D I := hX.2.2.1
  have hB : BookM D B := hX.2.2.2.1
  have hs : D 124 6 = s := hX.2.2.2.2
  have v : VT T n := ok.1
  have h40 := v.2.1
  refine fv_aload_n (q := 1) dX7_change_0 rfl rfl ?_
  refine fv_iload_n (q := 2) dX7_change_1 rfl rfl ?_
  refine fl_callVi (As := [_]) (q := 5) dX7_change_2 gX7_131 rfl sh124 rfl rfl (Nat.le_of_ble_eq_true rfl) rfl (by decide) (m_isRow D J T n hM v r) ?_
  refine fv_if_ne (q := 8) 11 dX7_change_5 (by decide) rfl (fun c5 => ?_) (fun c5 => ?_)
  · rw [bi_n'] at c5
    obtain ⟨j, hj, hrj, hjc⟩ := okr_t c5 h40
    subst hrj
    refine fv_iload_n (q := 12) dX7_change_11 rfl rfl ?_
    refine fl_callSi (As := [_]) (q := 15) dX7_change_12 gX7_173 rfl rfl (Nat.le_of_ble_eq_true rfl) rfl (by decide) (m_isKey D J k) ?_
    refine fv_if_eq (q := 18) 25 dX7_change_15 (by decide) rfl (fun c15 => ?_) (fun c15 => ?_)
    · rw [bi_0] at c15
      refine fv_ldc (q := 27) dX7_change_25 kX7_157 rfl ?_
      refine fv_iret dX7_change_27 rfl rfl (Nat.le_refl _) ?_
      have e9 : f_change (T, n, P, I, B, s) (nI j) k w = (-1000000002, (T, n, P, I, B, s)) := by unfold f_change; rw [if_neg (by rw [c5]; decide), if_pos (by rw [c15, Bool.false_and])]
      rw [e9] at hPost
      exact hPost _ _ _ ⟨rfl, hX, KM.rf⟩
    · rw [bi_n'] at c15
      refine fv_iload_n (q := 19) dX7_change_18 rfl rfl ?_
      refine fl_callSi (As := [_]) (q := 22) dX7_change_19 gX7_176 rfl rfl (Nat.le_of_ble_eq_true rfl) rfl (by decide) (m_isWorth D J w) ?_
      refine fv_if_ne (q := 25) 28 dX7_change_22 (by decide) rfl (fun c22 => ?_) (fun c22 => ?_)
      · rw [bi_n'] at c22
        refine fv_aload_n (q := 29) dX7_change_28 rfl rfl ?_
        refine fl_callV (As := []) (q := 32) dX7_change_29 gX7_170 rfl sh124 rfl rfl (Nat.le_of_ble_eq_true rfl) rfl (by decide) (m_notes D _ T P hM hP) (fun res D1 J1 hp => ?_)
        obtain ⟨rfl, rfl, hPn, hn1, hn2⟩ := hp
        have hD1 := KD.nt hn1 hn2
        have hM1 : MT D1 125 T := by unfold MT; rw [hn2 125 (by decide) (by decide)]; exact hM
        refine fv_aload_n (q := 33) dX7_change_32 rfl rfl ?_
        refine fv_aload_n (q := 34) dX7_change_33 rfl rfl ?_
        refine fl_getR (q := 37) dX7_change_34 fX7_7 sh124 rfl rfl ?_
        refine fl_callV (As := [_]) (q := 40) dX7_change_37 gX7_139 rfl sh124 rfl rfl (Nat.le_of_ble_eq_true rfl) rfl (by decide) (m_stands 125 sh125 D1 _ T hM1 n v (by decide)) (fun res D2 J2 hp => ?_)
        obtain ⟨rfl, rfl, hL2, hf2⟩ := hp
        have hR2 := KR.st hf2
        have hM2 := hR2.mt hM1
        refine fv_aload_n (q := 41) dX7_change_40 rfl rfl ?_
        refine fl_getR (q := 44) dX7_change_41 fX7_32 sh124 rfl rfl ?_
        refine fv_iload_n (q := 45) dX7_change_44 rfl rfl ?_
        refine fl_iald (q := 46) _ dX7_change_45 sh132 (by decide) rfl (by omega) rfl ?_
        refine fv_top (y := nI (pos T n j)) (hL2.2.1 j hj) ?_
        refine fv_istore (q := 48) (l' := [_, _, _, _, _]) dX7_change_46 (by decide) rfl rfl rfl ?_
        refine fv_aload_n (q := 49) dX7_change_48 rfl rfl ?_
        refine fl_getR (q := 52) dX7_change_49 fX7_7 sh124 rfl rfl ?_
        refine fv_bipush (v := 46) (q := 54) dX7_change_52 (by decide) rfl ?_
        refine fv_iload_n (q := 55) dX7_change_54 rfl rfl ?_
        refine fv_iadd (q := 56) dX7_change_55 rfl ?_
        refine fv_iload_n (q := 57) dX7_change_56 rfl rfl ?_
        refine fl_iast (q := 58) (46 + j) dX7_change_57 sh125 (by decide) (nI_add 46 j) (by omega) rfl ?_
        refine fv_aload_n (q := 59) dX7_change_58 rfl rfl ?_
        refine fl_getR (q := 62) dX7_change_59 fX7_7 sh124 rfl rfl ?_
        refine fv_bipush (v := 86) (q := 64) dX7_change_62 (by decide) rfl ?_
        refine fv_iload_n (q := 65) dX7_change_64 rfl rfl ?_
        refine fv_iadd (q := 66) dX7_change_65 rfl ?_
        refine fv_iload_n (q := 67) dX7_change_66 rfl rfl ?_
        refine fl_iast (q := 68) (86 + j) dX7_change_67 sh125 (by decide) (nI_add 86 j) (by omega) rfl ?_
        refine fv_aload_n (q := 69) dX7_change_68 rfl rfl ?_
        refine fv_aload_n (q := 70) dX7_change_69 rfl rfl ?_
        refine fl_getR (q := 73) dX7_change_70 fX7_7 sh124 rfl rfl ?_
        have vc := VT_chg (k := k) (w := w) v hj (isKeyB_i.mp c15) (isWorB_i.mp c22)
        have hMc : MT (up (up D2 125 (46 + j) k) 125 (86 + j) w) 125 (chgT T j k w) := by unfold MT; rw [up_s, up_s]; exact chg_m hM2
        refine fl_callV (As := [_]) (q := 76) dX7_change_73 gX7_139 rfl sh124 rfl rfl (Nat.le_of_ble_eq_true rfl) rfl (by decide) (m_stands 125 sh125 _ _ _ hMc n vc (by decide)) (fun res D4 J4 hp => ?_)
        obtain ⟨rfl, rfl, hL4, hf4⟩ := hp
        have hR4 := KR.st hf4
        have hK := (hD1.tr hR2.kd).tr ((((KD.rf D2).ua (Or.inl (by decide))).ua (Or.inl (by decide))).tr hR4.kd)
        have hP4 := PastM.kr (PastM.of (hPn.kr hR2) (D' := up (up D2 125 (46 + j) k) 125 (86 + j) w) rfl rfl) hR4
        refine fv_aload_n (q := 77) dX7_change_76 rfl rfl ?_
        refine fl_getR (q := 80) dX7_change_77 fX7_32 sh124 rfl rfl ?_
        refine fv_iload_n (q := 81) dX7_change_80 rfl rfl ?_
        refine fl_iald (q := 82) _ dX7_change_81 sh132 (by decide) rfl (by omega) rfl ?_
        refine fv_top (y := nI (pos (chgT T j k w) n j)) (hL4.2.1 j hj) ?_
        refine fv_iload (q := 84) dX7_change_82 rfl rfl ?_
        refine fv_icmp_ne (q := 87) 91 dX7_change_84 (by decide) rfl (fun c84 => ?_) (fun c84 => ?_)
        · rw [nI_eq (by have := pos_lt (T := chgT T j k w) hj; omega) (by have := pos_lt (T := T) hj; omega)] at c84
          refine fv_iconst (v := 1) (q := 92) dX7_change_91 (by decide) rfl ?_
          refine fv_iret dX7_change_92 rfl rfl (Nat.le_refl _) ?_
          have e9 : f_change (T, n, P, I, B, s) (nI j) k w = (1, (chgT T j k w, n, tk T P, I, B, s)) := by unfold f_change; rw [if_neg (by rw [c5]; decide), if_neg (by rw [c15, c22]; decide), hjc, if_neg c84]
          rw [e9] at hPost
          exact hPost _ _ _ ⟨rfl, hK.mr hI hB hs (hR4.mt hMc) hP4, hK.km⟩
        · rw [nI_eq (by have := pos_lt (T := chgT T j k w) hj; omega) (by have := pos_lt (T := T) hj; omega)] at c84
          refine fv_iconst (v := 0) (q := 88) dX7_change_87 (by decide) rfl ?_
          refine fv_goto 92 dX7_change_88 (by decide) ?_
          refine fv_iret dX7_change_92 rfl rfl (Nat.le_refl _) ?_
          have e9 : f_change (T, n, P, I, B, s) (nI j) k w = (0, (chgT T j k w, n, tk T P, I, B, s)) := by unfold f_change; rw [if_neg (by rw [c5]; decide), if_neg (by rw [c15, c22]; decide), hjc, if_pos c84]
          rw [e9] at hPost
          exact hPost _ _ _ ⟨rfl, hK.mr hI hB hs (hR4.mt hMc) hP4, hK.km⟩
      · rw [bi_0] at c22
        refine fv_ldc (q := 27) dX7_change_25 kX7_157 rfl ?_
        refine fv_iret dX7_change_27 rfl rfl (Nat.le_refl _) ?_
        have e9 : f_change (T, n, P, I, B, s) (nI j) k w = (-1000000002, (T, n, P, I, B, s)) := by unfold f_change; rw [if_neg (by rw [c5]; decide), if_pos (by rw [c22, Bool.and_false])]
        rw [e9] at hPost
        exact hPost _ _ _ ⟨rfl, hX, KM.rf⟩
  · rw [bi_0] at c5
    refine fv_ldc (q := 10) dX7_change_8 kX7_165 rfl ?_
    refine fv_iret dX7_change_10 rfl rfl (Nat.le_refl _) ?_
    have e9 : f_change (T, n, P, I, B, s) r k w = (-1000000001, (T, n, P, I, B, s)) := by unfold f_change; rw [if_pos c5]
    rw [e9] at hPost
    exact hPost _ _ _ ⟨rfl, hX, KM.rf⟩
set_option maxHeartbeats 4000000 in
set_option maxRecDepth 100000 in
theorem m_frame (D : Nat → Nat → Int32) (J : Nat → Nat → Int64) (σ : Sg) (hX : MR D σ) (ok : SgOk σ) (m b e l : Int32) : FD yX7_frame cX7_frame 7 (some .int) 4 [.ref 124, .int m, .int b, .int e, .int l] D J (fun res D' J' => res = some (.int (f_frame σ m b e l).1) ∧ MR D' (f_frame σ m b e l).2 ∧ KM D D' J J') := by
  refine FD.of (by decide) rfl (Nat.le_of_ble_eq_true rfl) (fun Post hPost => ?_)
  show FV _ _ _ _ _ _ _ _ _ _ _ _ [_, _, _, _, _, _, _] [] _
  obtain ⟨T, n, P, I, B, s⟩ := σ
  have hM : MT D 125 T := hX.1
  have hP : PastM D P := hX.2.1
  have hI : ImgM D I := hX.2.2.1
  have hB : BookM D B := hX.2.2.2.1
  have hs : D 124 6 = s := hX.2.2.2.2
  have v : VT T n := ok.1
  have h40 := v.2.1
  refine fv_iload_n (q := 1) dX7_frame_0 rfl rfl ?_
  refine fv_iconst (v := 0) (q := 2) dX7_frame_1 (by decide) rfl ?_
  refine fv_iconst (v := 2) (q := 3) dX7_frame_2 (by decide) rfl ?_
  refine fl_callSi (As := [_, _, _]) (q := 6) dX7_frame_3 gX7_120 rfl rfl (Nat.le_of_ble_eq_true rfl) rfl (by decide) (m_in D J m 0 2) ?_
  refine fv_if_eq (q := 9) 33 dX7_frame_6 (by decide) rfl (fun c6 => ?_) (fun c6 => ?_)
  · rw [bi_0] at c6
    refine fv_ldc (q := 35) dX7_frame_33 kX7_157 rfl ?_
    refine fv_iret dX7_frame_35 rfl rfl (Nat.le_refl _) ?_
    have e9 : f_frame (T, n, P, I, B, s) m b e l = (-1000000002, (T, n, P, I, B, s)) := by unfold f_frame; rw [if_pos (by rw [c6]; rfl)]
    rw [e9] at hPost
    exact hPost _ _ _ ⟨rfl, hX, KM.rf⟩
  · rw [bi_n'] at c6
    refine fv_iload_n (q := 10) dX7_frame_9 rfl rfl ?_
    refine fl_callSi (As := [_]) (q := 13) dX7_frame_10 gX7_184 rfl rfl (Nat.le_of_ble_eq_true rfl) rfl (by decide) (m_isBound D J b) ?_
    refine fv_if_eq (q := 16) 33 dX7_frame_13 (by decide) rfl (fun c13 => ?_) (fun c13 => ?_)
    · rw [bi_0] at c13
      refine fv_ldc (q := 35) dX7_frame_33 kX7_157 rfl ?_
      refine fv_iret dX7_frame_35 rfl rfl (Nat.le_refl _) ?_
      have e9 : f_frame (T, n, P, I, B, s) m b e l = (-1000000002, (T, n, P, I, B, s)) := by unfold f_frame; rw [if_pos (by rw [c13, Bool.and_false]; rfl)]
      rw [e9] at hPost
      exact hPost _ _ _ ⟨rfl, hX, KM.rf⟩
    · rw [bi_n'] at c13
      refine fv_iload_n (q := 17) dX7_frame_16 rfl rfl ?_
      refine fl_callSi (As := [_]) (q := 20) dX7_frame_17 gX7_184 rfl rfl (Nat.le_of_ble_eq_true rfl) rfl (by decide) (m_isBound D J e) ?_
      refine fv_if_eq (q := 23) 33 dX7_frame_20 (by decide) rfl (fun c20 => ?_) (fun c20 => ?_)
      · rw [bi_0] at c20
        refine fv_ldc (q := 35) dX7_frame_33 kX7_157 rfl ?_
        refine fv_iret dX7_frame_35 rfl rfl (Nat.le_refl _) ?_
        have e9 : f_frame (T, n, P, I, B, s) m b e l = (-1000000002, (T, n, P, I, B, s)) := by unfold f_frame; rw [if_pos (by rw [c20, Bool.and_false]; rfl)]
        rw [e9] at hPost
        exact hPost _ _ _ ⟨rfl, hX, KM.rf⟩
      · rw [bi_n'] at c20
        refine fv_iload (q := 25) dX7_frame_23 rfl rfl ?_
        refine fv_iconst (v := 0) (q := 26) dX7_frame_25 (by decide) rfl ?_
        refine fv_iconst (v := 3) (q := 27) dX7_frame_26 (by decide) rfl ?_
        refine fl_callSi (As := [_, _, _]) (q := 30) dX7_frame_27 gX7_120 rfl rfl (Nat.le_of_ble_eq_true rfl) rfl (by decide) (m_in D J l 0 3) ?_
        refine fv_if_ne (q := 33) 36 dX7_frame_30 (by decide) rfl (fun c30 => ?_) (fun c30 => ?_)
        · rw [bi_n'] at c30
          refine fv_aload_n (q := 37) dX7_frame_36 rfl rfl ?_
          refine fl_callV (As := []) (q := 40) dX7_frame_37 gX7_170 rfl sh124 rfl rfl (Nat.le_of_ble_eq_true rfl) rfl (by decide) (m_notes D _ T P hM hP) (fun res D1 J1 hp => ?_)
          obtain ⟨rfl, rfl, hPn, hn1, hn2⟩ := hp
          have hD1 := KD.nt hn1 hn2
          have hM1 : MT D1 125 T := by unfold MT; rw [hn2 125 (by decide) (by decide)]; exact hM
          refine fv_aload_n (q := 41) dX7_frame_40 rfl rfl ?_
          refine fl_getR (q := 44) dX7_frame_41 fX7_7 sh124 rfl rfl ?_
          refine fv_iconst (v := 1) (q := 45) dX7_frame_44 (by decide) rfl ?_
          refine fv_iload_n (q := 46) dX7_frame_45 rfl rfl ?_
          refine fl_iast (q := 47) 1 dX7_frame_46 sh125 (by decide) rfl (by decide) rfl ?_
          refine fv_aload_n (q := 48) dX7_frame_47 rfl rfl ?_
          refine fl_getR (q := 51) dX7_frame_48 fX7_7 sh124 rfl rfl ?_
          refine fv_iconst (v := 2) (q := 52) dX7_frame_51 (by decide) rfl ?_
          refine fv_iload_n (q := 53) dX7_frame_52 rfl rfl ?_
          refine fl_iast (q := 54) 2 dX7_frame_53 sh125 (by decide) rfl (by decide) rfl ?_
          refine fv_aload_n (q := 55) dX7_frame_54 rfl rfl ?_
          refine fl_getR (q := 58) dX7_frame_55 fX7_7 sh124 rfl rfl ?_
          refine fv_iconst (v := 3) (q := 59) dX7_frame_58 (by decide) rfl ?_
          refine fv_iload_n (q := 60) dX7_frame_59 rfl rfl ?_
          refine fl_iast (q := 61) 3 dX7_frame_60 sh125 (by decide) rfl (by decide) rfl ?_
          refine fv_aload_n (q := 62) dX7_frame_61 rfl rfl ?_
          refine fl_getR (q := 65) dX7_frame_62 fX7_7 sh124 rfl rfl ?_
          refine fv_iconst (v := 4) (q := 66) dX7_frame_65 (by decide) rfl ?_
          refine fv_iload (q := 68) dX7_frame_66 rfl rfl ?_
          refine fl_iast (q := 69) 4 dX7_frame_68 sh125 (by decide) rfl (by decide) rfl ?_
          refine fv_aload_n (q := 70) dX7_frame_69 rfl rfl ?_
          refine fv_aload_n (q := 71) dX7_frame_70 rfl rfl ?_
          refine fl_getR (q := 74) dX7_frame_71 fX7_7 sh124 rfl rfl ?_
          have vf := VT_frm (m := m) (l := l) v (isBndB_i.mp c13) (isBndB_i.mp c20)
          have hMc : MT (up (up (up (up D1 125 1 m) 125 2 b) 125 3 e) 125 4 l) 125 (frmT T m b e l) := by unfold MT; rw [up_s, up_s, up_s, up_s]; exact frm_m hM1
          refine fl_callV (As := [_]) (q := 77) dX7_frame_74 gX7_139 rfl sh124 rfl rfl (Nat.le_of_ble_eq_true rfl) rfl (by decide) (m_stands 125 sh125 _ _ _ hMc n vf (by decide)) (fun res D4 J3 hp => ?_)
          obtain ⟨rfl, hJ3, hL4, hf4⟩ := hp
          have hR4 := KR.st hf4
          have hM4 := hR4.mt hMc
          have hK := hD1.tr (((((KD.rf D1).ua (Or.inl (by decide))).ua (Or.inl (by decide))).ua (Or.inl (by decide)) |>.ua (Or.inl (by decide))).tr hR4.kd)
          have hP4 := PastM.kr (PastM.of hPn (D' := (up (up (up (up D1 125 1 m) 125 2 b) 125 3 e) 125 4 l)) rfl rfl) hR4
          subst hJ3
          refine fv_iconst (v := 0) (q := 78) dX7_frame_77 (by decide) rfl ?_
          refine fv_istore (q := 80) (l' := [_, _, _, _, _, _, _]) dX7_frame_78 (by decide) rfl rfl rfl ?_
          refine fv_iconst (v := 0) (q := 81) dX7_frame_80 (by decide) rfl ?_
          refine fv_istore (q := 83) (l' := [_, _, _, _, _, _, _]) dX7_frame_81 (by decide) rfl rfl rfl ?_
          have e9 : f_frame (T, n, P, I, B, s) m b e l = (nI (fb_sm (fun r => (frL (frmT T m b e l) n r n).length) n), (frmT T m b e l, n, tk T P, I, B, s)) := by unfold f_frame; rw [if_neg (by rw [c6, c13, c20, c30]; decide)]
          rw [e9] at hPost
          have loop : ∀ i, i ≤ n → ∀ E : Nat → Nat → Int32, KF D4 E → FV cX7_frame 7 (some .int) yX7_frame.cls yX7_frame.name 4 0 0 Post 0 0 83 [some (.ref 124), some (.int m), some (.int b), some (.int e), some (.int l), some (.int (nI (fb_sm (fun r => (frL (frmT T m b e l) n r n).length) i))), some (.int (nI i))] [] (lay E J3) := by
            refine up_ind (fun i hi ih => ?_)
            intro E hKf
            refine fv_iload (q := 85) dX7_frame_83 rfl rfl ?_
            refine fv_aload_n (q := 86) dX7_frame_85 rfl rfl ?_
            refine fl_getR (q := 89) dX7_frame_86 fX7_7 sh124 rfl rfl ?_
            refine fv_iconst (v := 0) (q := 90) dX7_frame_89 (by decide) rfl ?_
            refine fl_iald (q := 91) 0 dX7_frame_90 sh125 (by decide) rfl (by decide) rfl ?_
            refine fv_top (y := nI n) ((hKf.mt hM4 ⟨by decide, by decide⟩ 0 (by decide)).trans vf.1) ?_
            refine fv_icmp_ge (q := 94) 119 dX7_frame_91 (by decide) rfl (fun c91 => ?_) (fun c91 => ?_)
            · rw [nI_leI (by omega) (by omega)] at c91
              have hin : i = n := by omega
              subst hin
              refine fv_iload (q := 121) dX7_frame_119 rfl rfl ?_
              refine fv_iret dX7_frame_121 rfl rfl (Nat.le_refl _) ?_
              exact hPost _ _ _ ⟨rfl, (hK.tr hKf.kr.kd).mr hI hB hs (hKf.mt hM4 ⟨by decide, by decide⟩) (hP4.kr hKf.kr), (hK.tr hKf.kr.kd).km⟩
            · rw [nI_leI (by omega) (by omega)] at c91
              refine fv_aload_n (q := 95) dX7_frame_94 rfl rfl ?_
              refine fv_aload_n (q := 96) dX7_frame_95 rfl rfl ?_
              refine fl_getR (q := 99) dX7_frame_96 fX7_7 sh124 rfl rfl ?_
              refine fv_iload (q := 101) dX7_frame_99 rfl rfl ?_
              refine fl_callV (As := [_, _]) (q := 104) dX7_frame_101 gX7_106 rfl sh124 rfl rfl (Nat.le_of_ble_eq_true rfl) rfl (by decide) (m_frames 125 sh125 E J3 _ (hKf.mt hM4 ⟨by decide, by decide⟩) n vf ⟨by decide, by decide⟩ (hKf.la hL4) i (by omega)) (fun res D5 J5 hp => ?_)
              obtain ⟨rfl, rfl, hK2, hS⟩ := hp
              refine fv_iload (q := 106) dX7_frame_104 rfl rfl ?_
              refine fv_aload_n (q := 107) dX7_frame_106 rfl rfl ?_
              refine fl_getI (q := 110) dX7_frame_107 fX7_100 sh124 rfl rfl ?_
              refine fv_top (y := nI (frL (frmT T m b e l) n i n).length) hS.1 ?_
              refine fv_iadd (q := 111) dX7_frame_110 rfl ?_
              refine fv_top (y := nI (fb_sm (fun r => (frL (frmT T m b e l) n r n).length) (i + 1))) (by rw [nI_add, fb_sm_succ]) ?_
              refine fv_istore (q := 113) (l' := [_, _, _, _, _, _, _]) dX7_frame_111 (by decide) rfl rfl rfl ?_
              refine fv_iinc (v := _ + 1) (q := 116) (l' := [_, _, _, _, _, _, _]) dX7_frame_113 rfl rfl (by decide) rfl rfl rfl ?_
              refine fv_goto 83 dX7_frame_116 (by decide) ?_
              rw [nI_1]
              exact ih (by omega) _ (hKf.tr hK2)
          exact loop 0 (Nat.zero_le _) D4 (KF.rf D4)
        · rw [bi_0] at c30
          refine fv_ldc (q := 35) dX7_frame_33 kX7_157 rfl ?_
          refine fv_iret dX7_frame_35 rfl rfl (Nat.le_refl _) ?_
          have e9 : f_frame (T, n, P, I, B, s) m b e l = (-1000000002, (T, n, P, I, B, s)) := by unfold f_frame; rw [if_pos (by rw [c30, Bool.and_false])]
          rw [e9] at hPost
          exact hPost _ _ _ ⟨rfl, hX, KM.rf⟩
