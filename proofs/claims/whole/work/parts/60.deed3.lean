set_option maxHeartbeats 4000000 in
set_option maxRecDepth 100000 in
theorem m_ahead (D : Nat → Nat → Int32) (J : Nat → Nat → Int64) (σ : Sg) (hX : MR D σ) (ok : SgOk σ) (a : Int32) (ha9 : a = 0 ∨ a = 1) : FD yX7_ahead cX7_ahead 4 (some .int) 4 [.ref 124, .int a] D J (fun res D' J' => res = some (.int (f_ahead σ a).1) ∧ MR D' (f_ahead σ a).2 ∧ KM D D' J J') := by
  refine FD.of (by decide) rfl (Nat.le_of_ble_eq_true rfl) (fun Post hPost => ?_)
  show FV _ _ _ _ _ _ _ _ _ _ _ _ [_, _, _, _] [] _
  obtain ⟨T, n, P, I, B, s⟩ := σ
  have e9 : f_ahead (T, n, P, I, B, s) a = (nI (fb_ct (fun r => decide (¬ pos (ahdT T a) n r = pos T n r)) n), (ahdT T a, n, tk T P, I, B, s)) := rfl
  rw [e9] at hPost
  have hM : MT D 125 T := hX.1
  have hP : PastM D P := hX.2.1
  have hI : ImgM D I := hX.2.2.1
  have hB : BookM D B := hX.2.2.2.1
  have hs : D 124 6 = s := hX.2.2.2.2
  have v : VT T n := ok.1
  have h40 := v.2.1
  refine fv_aload_n (q := 1) dX7_ahead_0 rfl rfl ?_
  refine fl_callV (As := []) (q := 4) dX7_ahead_1 gX7_170 rfl sh124 rfl rfl (Nat.le_of_ble_eq_true rfl) rfl (by decide) (m_notes D _ T P hM hP) (fun res D1 J1 hp => ?_)
  obtain ⟨rfl, rfl, hPn, hn1, hn2⟩ := hp
  have hD1 := KD.nt hn1 hn2
  have hM1 : MT D1 125 T := by unfold MT; rw [hn2 125 (by decide) (by decide)]; exact hM
  refine fv_aload_n (q := 5) dX7_ahead_4 rfl rfl ?_
  refine fv_aload_n (q := 6) dX7_ahead_5 rfl rfl ?_
  refine fl_getR (q := 9) dX7_ahead_6 fX7_7 sh124 rfl rfl ?_
  refine fl_callV (As := [_]) (q := 12) dX7_ahead_9 gX7_139 rfl sh124 rfl rfl (Nat.le_of_ble_eq_true rfl) rfl (by decide) (m_stands 125 sh125 D1 _ T hM1 n v (by decide)) (fun res D2 J2 hp => ?_)
  obtain ⟨rfl, rfl, hL2, hf2⟩ := hp
  have hR2 := KR.st hf2
  refine fv_iconst (v := 0) (q := 13) dX7_ahead_12 (by decide) rfl ?_
  refine fv_istore_n (i := 2) (q := 14) (l' := [_, _, _, _]) dX7_ahead_13 rfl (by decide) rfl rfl rfl ?_
  have loop : ∀ i, i ≤ n → ∀ E : Nat → Nat → Int32, KR D1 E → LaidM E T n → (∀ q, q < i → E 142 q = nI (pos T n q)) → FV cX7_ahead 4 (some .int) yX7_ahead.cls yX7_ahead.name 4 0 0 Post 0 0 14 [some (.ref 124), some (.int a), some (.int (nI i)), none] [] (lay E J2) := by
    refine up_ind (fun i hi ih => ?_)
    intro E hR hLE hH
    have hME := hR.mt hM1
    refine fv_iload_n (q := 15) dX7_ahead_14 rfl rfl ?_
    refine fv_aload_n (q := 16) dX7_ahead_15 rfl rfl ?_
    refine fl_getR (q := 19) dX7_ahead_16 fX7_7 sh124 rfl rfl ?_
    refine fv_iconst (v := 0) (q := 20) dX7_ahead_19 (by decide) rfl ?_
    refine fl_iald (q := 21) 0 dX7_ahead_20 sh125 (by decide) rfl (by decide) rfl ?_
    refine fv_top (y := nI n) ((hME 0 (by decide)).trans v.1) ?_
    refine fv_icmp_ge (q := 24) 42 dX7_ahead_21 (by decide) rfl (fun c21 => ?_) (fun c21 => ?_)
    · rw [nI_leI (by omega) (by omega)] at c21
      have hin : i = n := by omega
      rw [hin] at hH
      refine fv_aload_n (q := 43) dX7_ahead_42 rfl rfl ?_
      refine fl_getR (q := 46) dX7_ahead_43 fX7_7 sh124 rfl rfl ?_
      refine fv_iconst (v := 5) (q := 47) dX7_ahead_46 (by decide) rfl ?_
      refine fv_iload_n (q := 48) dX7_ahead_47 rfl rfl ?_
      refine fv_if_eq (q := 51) 55 dX7_ahead_48 (by decide) rfl (fun c48 => ?_) (fun c48 => ?_)
      · refine fv_iconst (v := 0) (q := 56) dX7_ahead_55 (by decide) rfl ?_
        refine fv_top (y := a) c48.symm ?_
        refine fl_iast (q := 57) 5 dX7_ahead_56 sh125 (by decide) rfl (by decide) rfl ?_
        refine fv_aload_n (q := 58) dX7_ahead_57 rfl rfl ?_
        refine fv_aload_n (q := 59) dX7_ahead_58 rfl rfl ?_
        refine fl_getR (q := 62) dX7_ahead_59 fX7_7 sh124 rfl rfl ?_
        have hMc : MT (up E 125 5 a) 125 (ahdT T a) := by unfold MT; rw [up_s]; exact ahd_m hME
        have va := VT_ahd v ha9
        refine fl_callV (As := [_]) (q := 65) dX7_ahead_62 gX7_139 rfl sh124 rfl rfl (Nat.le_of_ble_eq_true rfl) rfl (by decide) (m_stands 125 sh125 _ _ _ hMc n va (by decide)) (fun res D4 J4 hp => ?_)
        obtain ⟨rfl, rfl, hL4, hf4⟩ := hp
        have hR4 := KR.st hf4
        have hM4 := hR4.mt hMc
        have hK := (hD1.tr hR.kd).tr (((KD.rf E).ua (Or.inl (by decide))).tr hR4.kd)
        have hP4 := PastM.kr (PastM.of (hPn.kr hR) (D' := up E 125 5 a) rfl rfl) hR4
        have hH4 : ∀ q, q < n → D4 142 q = nI (pos T n q) := fun q hq => by rw [hf4 142 (by decide), up_n _ _ _ (by decide)]; exact hH q hq
        refine fv_iconst (v := 0) (q := 66) dX7_ahead_65 (by decide) rfl ?_
        refine fv_istore_n (i := 2) (q := 67) (l' := [_, _, _, _]) dX7_ahead_66 rfl (by decide) rfl rfl rfl ?_
        refine fv_iconst (v := 0) (q := 68) dX7_ahead_67 (by decide) rfl ?_
        refine fv_istore_n (i := 3) (q := 69) (l' := [_, _, _, _]) dX7_ahead_68 rfl (by decide) rfl rfl rfl ?_
        have loop2 : ∀ i, i ≤ n → FV cX7_ahead 4 (some .int) yX7_ahead.cls yX7_ahead.name 4 0 0 Post 0 0 69 [some (.ref 124), some (.int a), some (.int (nI (fb_ct (fun r => decide (¬ pos (ahdT T a) n r = pos T n r)) i))), some (.int (nI i))] [] (lay D4 J4) := by
          refine up_ind (fun i hi ih => ?_)
          refine fv_iload_n (q := 70) dX7_ahead_69 rfl rfl ?_
          refine fv_aload_n (q := 71) dX7_ahead_70 rfl rfl ?_
          refine fl_getR (q := 74) dX7_ahead_71 fX7_7 sh124 rfl rfl ?_
          refine fv_iconst (v := 0) (q := 75) dX7_ahead_74 (by decide) rfl ?_
          refine fl_iald (q := 76) 0 dX7_ahead_75 sh125 (by decide) rfl (by decide) rfl ?_
          refine fv_top (y := nI n) ((hM4 0 (by decide)).trans va.1) ?_
          refine fv_icmp_ge (q := 79) 108 dX7_ahead_76 (by decide) rfl (fun c76 => ?_) (fun c76 => ?_)
          · rw [nI_leI (by omega) (by omega)] at c76
            have hin : i = n := by omega
            subst hin
            refine fv_iload_n (q := 109) dX7_ahead_108 rfl rfl ?_
            refine fv_iret dX7_ahead_109 rfl rfl (Nat.le_refl _) ?_
            exact hPost _ _ _ ⟨rfl, hK.mr hI hB hs hM4 hP4, hK.km⟩
          · rw [nI_leI (by omega) (by omega)] at c76
            refine fv_iload_n (q := 80) dX7_ahead_79 rfl rfl ?_
            refine fv_aload_n (q := 81) dX7_ahead_80 rfl rfl ?_
            refine fl_getR (q := 84) dX7_ahead_81 fX7_63 sh124 rfl rfl ?_
            refine fv_iload_n (q := 85) dX7_ahead_84 rfl rfl ?_
            refine fl_iald (q := 86) i dX7_ahead_85 sh142 (by decide) rfl (by omega) rfl ?_
            refine fv_top (y := nI (pos T n i)) (hH4 i (by omega)) ?_
            refine fv_aload_n (q := 87) dX7_ahead_86 rfl rfl ?_
            refine fl_getR (q := 90) dX7_ahead_87 fX7_32 sh124 rfl rfl ?_
            refine fv_iload_n (q := 91) dX7_ahead_90 rfl rfl ?_
            refine fl_iald (q := 92) i dX7_ahead_91 sh132 (by decide) rfl (by omega) rfl ?_
            refine fv_top (y := nI (pos (ahdT T a) n i)) (hL4.2.1 i (by omega)) ?_
            refine fv_icmp_ne (q := 95) 99 dX7_ahead_92 (by decide) rfl (fun c92 => ?_) (fun c92 => ?_)
            · rw [nI_eq (by have := pos_lt (T := T) (n := n) (r := i) (by omega); omega) (by have := pos_lt (T := ahdT T a) (n := n) (r := i) (by omega); omega)] at c92
              refine fv_iconst (v := 1) (q := 100) dX7_ahead_99 (by decide) rfl ?_
              refine fv_iadd (q := 101) dX7_ahead_100 rfl ?_
              refine fv_istore_n (i := 2) (q := 102) (l' := [_, _, _, _]) dX7_ahead_101 rfl (by decide) rfl rfl rfl ?_
              refine fv_iinc (v := _ + 1) (q := 105) (l' := [_, _, _, _]) dX7_ahead_102 rfl rfl (by decide) rfl rfl rfl ?_
              refine fv_goto 69 dX7_ahead_105 (by decide) ?_
              have h9 := ih (by omega)
              rw [ct_t (p := fun r => decide (¬ pos (ahdT T a) n r = pos T n r)) (decide_eq_true (fun z => c92 z.symm))] at h9
              rw [nI_1, nI_1]
              exact h9
            · rw [nI_eq (by have := pos_lt (T := T) (n := n) (r := i) (by omega); omega) (by have := pos_lt (T := ahdT T a) (n := n) (r := i) (by omega); omega)] at c92
              refine fv_iconst (v := 0) (q := 96) dX7_ahead_95 (by decide) rfl ?_
              refine fv_goto 100 dX7_ahead_96 (by decide) ?_
              refine fv_iadd (q := 101) dX7_ahead_100 rfl ?_
              refine fv_istore_n (i := 2) (q := 102) (l' := [_, _, _, _]) dX7_ahead_101 rfl (by decide) rfl rfl rfl ?_
              refine fv_iinc (v := _ + 1) (q := 105) (l' := [_, _, _, _]) dX7_ahead_102 rfl rfl (by decide) rfl rfl rfl ?_
              refine fv_goto 69 dX7_ahead_105 (by decide) ?_
              have h9 := ih (by omega)
              rw [ct_f (p := fun r => decide (¬ pos (ahdT T a) n r = pos T n r)) (decide_eq_false (fun z => z c92.symm))] at h9
              rw [nI_1, show (0 : Int32) = nI 0 from rfl, nI_add]
              exact h9
        exact loop2 0 (Nat.zero_le _)
      · refine fv_iconst (v := 1) (q := 52) dX7_ahead_51 (by decide) rfl ?_
        refine fv_top (y := a) (by rcases ha9 with h | h; exact absurd h c48; exact h.symm) ?_
        refine fv_goto 56 dX7_ahead_52 (by decide) ?_
        refine fl_iast (q := 57) 5 dX7_ahead_56 sh125 (by decide) rfl (by decide) rfl ?_
        refine fv_aload_n (q := 58) dX7_ahead_57 rfl rfl ?_
        refine fv_aload_n (q := 59) dX7_ahead_58 rfl rfl ?_
        refine fl_getR (q := 62) dX7_ahead_59 fX7_7 sh124 rfl rfl ?_
        have hMc : MT (up E 125 5 a) 125 (ahdT T a) := by unfold MT; rw [up_s]; exact ahd_m hME
        have va := VT_ahd v ha9
        refine fl_callV (As := [_]) (q := 65) dX7_ahead_62 gX7_139 rfl sh124 rfl rfl (Nat.le_of_ble_eq_true rfl) rfl (by decide) (m_stands 125 sh125 _ _ _ hMc n va (by decide)) (fun res D4 J4 hp => ?_)
        obtain ⟨rfl, rfl, hL4, hf4⟩ := hp
        have hR4 := KR.st hf4
        have hM4 := hR4.mt hMc
        have hK := (hD1.tr hR.kd).tr (((KD.rf E).ua (Or.inl (by decide))).tr hR4.kd)
        have hP4 := PastM.kr (PastM.of (hPn.kr hR) (D' := up E 125 5 a) rfl rfl) hR4
        have hH4 : ∀ q, q < n → D4 142 q = nI (pos T n q) := fun q hq => by rw [hf4 142 (by decide), up_n _ _ _ (by decide)]; exact hH q hq
        refine fv_iconst (v := 0) (q := 66) dX7_ahead_65 (by decide) rfl ?_
        refine fv_istore_n (i := 2) (q := 67) (l' := [_, _, _, _]) dX7_ahead_66 rfl (by decide) rfl rfl rfl ?_
        refine fv_iconst (v := 0) (q := 68) dX7_ahead_67 (by decide) rfl ?_
        refine fv_istore_n (i := 3) (q := 69) (l' := [_, _, _, _]) dX7_ahead_68 rfl (by decide) rfl rfl rfl ?_
        have loop2 : ∀ i, i ≤ n → FV cX7_ahead 4 (some .int) yX7_ahead.cls yX7_ahead.name 4 0 0 Post 0 0 69 [some (.ref 124), some (.int a), some (.int (nI (fb_ct (fun r => decide (¬ pos (ahdT T a) n r = pos T n r)) i))), some (.int (nI i))] [] (lay D4 J4) := by
          refine up_ind (fun i hi ih => ?_)
          refine fv_iload_n (q := 70) dX7_ahead_69 rfl rfl ?_
          refine fv_aload_n (q := 71) dX7_ahead_70 rfl rfl ?_
          refine fl_getR (q := 74) dX7_ahead_71 fX7_7 sh124 rfl rfl ?_
          refine fv_iconst (v := 0) (q := 75) dX7_ahead_74 (by decide) rfl ?_
          refine fl_iald (q := 76) 0 dX7_ahead_75 sh125 (by decide) rfl (by decide) rfl ?_
          refine fv_top (y := nI n) ((hM4 0 (by decide)).trans va.1) ?_
          refine fv_icmp_ge (q := 79) 108 dX7_ahead_76 (by decide) rfl (fun c76 => ?_) (fun c76 => ?_)
          · rw [nI_leI (by omega) (by omega)] at c76
            have hin : i = n := by omega
            subst hin
            refine fv_iload_n (q := 109) dX7_ahead_108 rfl rfl ?_
            refine fv_iret dX7_ahead_109 rfl rfl (Nat.le_refl _) ?_
            exact hPost _ _ _ ⟨rfl, hK.mr hI hB hs hM4 hP4, hK.km⟩
          · rw [nI_leI (by omega) (by omega)] at c76
            refine fv_iload_n (q := 80) dX7_ahead_79 rfl rfl ?_
            refine fv_aload_n (q := 81) dX7_ahead_80 rfl rfl ?_
            refine fl_getR (q := 84) dX7_ahead_81 fX7_63 sh124 rfl rfl ?_
            refine fv_iload_n (q := 85) dX7_ahead_84 rfl rfl ?_
            refine fl_iald (q := 86) i dX7_ahead_85 sh142 (by decide) rfl (by omega) rfl ?_
            refine fv_top (y := nI (pos T n i)) (hH4 i (by omega)) ?_
            refine fv_aload_n (q := 87) dX7_ahead_86 rfl rfl ?_
            refine fl_getR (q := 90) dX7_ahead_87 fX7_32 sh124 rfl rfl ?_
            refine fv_iload_n (q := 91) dX7_ahead_90 rfl rfl ?_
            refine fl_iald (q := 92) i dX7_ahead_91 sh132 (by decide) rfl (by omega) rfl ?_
            refine fv_top (y := nI (pos (ahdT T a) n i)) (hL4.2.1 i (by omega)) ?_
            refine fv_icmp_ne (q := 95) 99 dX7_ahead_92 (by decide) rfl (fun c92 => ?_) (fun c92 => ?_)
            · rw [nI_eq (by have := pos_lt (T := T) (n := n) (r := i) (by omega); omega) (by have := pos_lt (T := ahdT T a) (n := n) (r := i) (by omega); omega)] at c92
              refine fv_iconst (v := 1) (q := 100) dX7_ahead_99 (by decide) rfl ?_
              refine fv_iadd (q := 101) dX7_ahead_100 rfl ?_
              refine fv_istore_n (i := 2) (q := 102) (l' := [_, _, _, _]) dX7_ahead_101 rfl (by decide) rfl rfl rfl ?_
              refine fv_iinc (v := _ + 1) (q := 105) (l' := [_, _, _, _]) dX7_ahead_102 rfl rfl (by decide) rfl rfl rfl ?_
              refine fv_goto 69 dX7_ahead_105 (by decide) ?_
              have h9 := ih (by omega)
              rw [ct_t (p := fun r => decide (¬ pos (ahdT T a) n r = pos T n r)) (decide_eq_true (fun z => c92 z.symm))] at h9
              rw [nI_1, nI_1]
              exact h9
            · rw [nI_eq (by have := pos_lt (T := T) (n := n) (r := i) (by omega); omega) (by have := pos_lt (T := ahdT T a) (n := n) (r := i) (by omega); omega)] at c92
              refine fv_iconst (v := 0) (q := 96) dX7_ahead_95 (by decide) rfl ?_
              refine fv_goto 100 dX7_ahead_96 (by decide) ?_
              refine fv_iadd (q := 101) dX7_ahead_100 rfl ?_
              refine fv_istore_n (i := 2) (q := 102) (l' := [_, _, _, _]) dX7_ahead_101 rfl (by decide) rfl rfl rfl ?_
              refine fv_iinc (v := _ + 1) (q := 105) (l' := [_, _, _, _]) dX7_ahead_102 rfl rfl (by decide) rfl rfl rfl ?_
              refine fv_goto 69 dX7_ahead_105 (by decide) ?_
              have h9 := ih (by omega)
              rw [ct_f (p := fun r => decide (¬ pos (ahdT T a) n r = pos T n r)) (decide_eq_false (fun z => z c92.symm))] at h9
              rw [nI_1, show (0 : Int32) = nI 0 from rfl, nI_add]
              exact h9
        exact loop2 0 (Nat.zero_le _)
    · rw [nI_leI (by omega) (by omega)] at c21
      refine fv_aload_n (q := 25) dX7_ahead_24 rfl rfl ?_
      refine fl_getR (q := 28) dX7_ahead_25 fX7_63 sh124 rfl rfl ?_
      refine fv_iload_n (q := 29) dX7_ahead_28 rfl rfl ?_
      refine fv_aload_n (q := 30) dX7_ahead_29 rfl rfl ?_
      refine fl_getR (q := 33) dX7_ahead_30 fX7_32 sh124 rfl rfl ?_
      refine fv_iload_n (q := 34) dX7_ahead_33 rfl rfl ?_
      refine fl_iald (q := 35) i dX7_ahead_34 sh132 (by decide) rfl (by omega) rfl ?_
      refine fv_top (y := nI (pos T n i)) (hLE.2.1 i (by omega)) ?_
      refine fl_iast (q := 36) i dX7_ahead_35 sh142 (by decide) rfl (by omega) rfl ?_
      refine fv_iinc (v := _ + 1) (q := 39) (l' := [_, _, _, _]) dX7_ahead_36 rfl rfl (by decide) rfl rfl rfl ?_
      refine fv_goto 14 dX7_ahead_39 (by decide) ?_
      rw [nI_1]
      refine ih (by omega) _ (hR.ua (Or.inr (by decide))) (hLE.of (fun c h1 h2 => by rw [up_n _ _ _ (by omega)])) (fun q hq => ?_)
      rw [up_s]
      by_cases g : q = i
      · subst g; rw [pk_us]
      · rw [pk_un g]; exact hH q (by omega)
  exact loop 0 (Nat.zero_le _) D2 hR2 hL2 (fun q hq => absurd hq (Nat.not_lt_zero _))
theorem dw_rem {s : Int32} (h : 0 ≤ s.toInt) : (s.toInt64 * 1103515245 + 12345 - (s.toInt64 * 1103515245 + 12345) / 2147483648 * 2147483648).toInt32 = dw s := by
  obtain ⟨m, hm, rfl⟩ := nI_of (x := s) (fun z => by rw [fa_lt] at z; have : (0 : Int32).toInt = 0 := by decide
                                                     omega)
  unfold dw
  rw [nI_l hm, show (1103515245 : Int64) = lN 1103515245 from rfl, show (12345 : Int64) = lN 12345 from rfl, show (2147483648 : Int64) = lN 2147483648 from rfl, show (2147483647 : Int64) = lN (2 ^ 31 - 1) from rfl, lN_mul, lN_add, fb_maskL, pk_lRem (by omega) (by decide) (by decide)]
set_option maxHeartbeats 4000000 in
set_option maxRecDepth 100000 in
theorem m_draw (D : Nat → Nat → Int32) (J : Nat → Nat → Int64) (s m : Int32) (hs : D 124 6 = s) (h0 : 0 ≤ s.toInt) (hm : ¬ m = 0) : FD yX7_draw cX7_draw 2 (some .int) 0 [.ref 124, .int m] D J (fun res D' J' => res = some (.int (dv (dw s) m)) ∧ J' = J ∧ D' = up D 124 6 (dw s)) := by
  refine FD.of (by decide) rfl (Nat.le_of_ble_eq_true rfl) (fun Post hPost => ?_)
  show FV _ _ _ _ _ _ _ _ _ _ _ _ [_, _] [] _
  refine fv_aload_n (q := 1) dX7_draw_0 rfl rfl ?_
  refine fv_aload_n (q := 2) dX7_draw_1 rfl rfl ?_
  refine fl_getI (q := 5) dX7_draw_2 fX7_187 sh124 rfl rfl ?_
  refine fv_top hs ?_
  refine fv_i2l (q := 6) dX7_draw_5 rfl ?_
  refine fv_ldc2 (q := 9) dX7_draw_6 kX7_190 rfl ?_
  refine fv_lmul (q := 10) dX7_draw_9 rfl ?_
  refine fv_ldc2 (q := 13) dX7_draw_10 kX7_192 rfl ?_
  refine fv_ladd (q := 14) dX7_draw_13 rfl ?_
  refine fv_ldc2 (q := 17) dX7_draw_14 kX7_194 rfl ?_
  refine fv_lrem (q := 18) dX7_draw_17 (by decide) rfl ?_
  refine fv_l2i (q := 19) dX7_draw_18 rfl ?_
  refine fv_top (dw_rem h0) ?_
  refine fl_putI (q := 22) dX7_draw_19 fX7_187 sh124 rfl rfl rfl rfl ?_
  refine fv_aload_n (q := 23) dX7_draw_22 rfl rfl ?_
  refine fl_getI (q := 26) dX7_draw_23 fX7_187 sh124 rfl rfl ?_
  refine fv_top (y := dw s) (by rw [up_s, pk_us]) ?_
  refine fv_ldc (q := 28) dX7_draw_26 kX7_196 rfl ?_
  refine fv_idiv (q := 29) dX7_draw_28 (by decide) rfl ?_
  refine fv_iload_n (q := 30) dX7_draw_29 rfl rfl ?_
  refine fv_irem (q := 31) dX7_draw_30 hm rfl ?_
  refine fv_iret dX7_draw_31 rfl rfl (Nat.le_refl _) ?_
  exact hPost _ _ _ ⟨rfl, rfl, rfl⟩
theorem f_d1_t (T : Nat → Int32) (n : Nat) (P : List (Nat → Int32)) (I : Nat → Option ((Nat → Int32) × Int32)) (B : List (Nat × Int32 × Int32)) (s : Int32) : f_d1 (T, n, P, I, B, s) = (addT T n (dv (dw s) 3) (if dv (dw (dw s)) 12 = 11 then 1000000 else dv (dw (dw s)) 12) (if dv (dw (dw (dw s))) 21 = 20 then 1000000 else dv (dw (dw (dw s))) 21 - 10), n + 1, tk T P, I, B, dw (dw (dw s))) := rfl
theorem dw_0 (s : Int32) : 0 ≤ (dw s).toInt := by
  obtain ⟨m, hm, e⟩ := dw_pos s
  rw [e, nI_toInt (by omega)]; omega
theorem KD.sd {D E : Nat → Nat → Int32} {T' : Nat → Int32} {n' : Nat} {P' : List (Nat → Int32)} {I : Nat → Option ((Nat → Int32) × Int32)} {B : List (Nat × Int32 × Int32)} {s : Int32} (h : KD (up D 124 6 s) E) (hI : ImgM D I) (hB : BookM D B) (hM : MT E 125 T') (hP : PastM E P') : MR E (T', n', P', I, B, s) :=
  h.mr (hI.of (up_n _ _ _ (by decide)) (up_n _ _ _ (by decide))) (hB.of (by rw [up_s, pk_un (by decide)]) (up_n _ _ _ (by decide))) (by rw [up_s, pk_us]) hM hP
set_option maxHeartbeats 4000000 in
set_option maxRecDepth 100000 in
theorem m_drift (D : Nat → Nat → Int32) (J : Nat → Nat → Int64) (σ : Sg) (hX : MR D σ) (ok : SgOk σ) (k : Int32) : FD yX7_drift cX7_drift 6 (some .int) 3 [.ref 124, .int k] D J (fun res D' J' => res = some (.int (f_drift σ k).1) ∧ MR D' (f_drift σ k).2 ∧ KM D D' J J') := by
  refine FD.of (by decide) rfl (Nat.le_of_ble_eq_true rfl) (fun Post hPost => ?_)
  show FV _ _ _ _ _ _ _ _ _ _ _ _ [_, _, _, _, _, _] [] _
  refine fv_iload_n (q := 1) dX7_drift_0 rfl rfl ?_
  refine fv_iconst (v := 1) (q := 2) dX7_drift_1 (by decide) rfl ?_
  refine fv_bipush (v := 20) (q := 4) dX7_drift_2 (by decide) rfl ?_
  refine fl_callSi (As := [_, _, _]) (q := 7) dX7_drift_4 gX7_120 rfl rfl (Nat.le_of_ble_eq_true rfl) rfl (by decide) (m_in D J k 1 20) ?_
  refine fv_if_ne (q := 10) 13 dX7_drift_7 (by decide) rfl (fun c7 => ?_) (fun c7 => ?_)
  · rw [bi_n'] at c7
    obtain ⟨c, hc1, hc2, hkc, hcc⟩ := wth_n (a := 1) (b := 20) c7 (by decide) (by decide)
    subst hkc
    refine fv_iconst (v := 0) (q := 14) dX7_drift_13 (by decide) rfl ?_
    refine fv_istore_n (i := 2) (q := 15) (l' := [_, _, _, _, _, _]) dX7_drift_14 rfl (by decide) rfl rfl rfl ?_
    have loop : ∀ i, i ≤ c → ∀ (l3 l4 l5 : Option Value) (E : Nat → Nat → Int32), MR E (f_dn σ i) → (∀ a, a < 124 → E a = D a) → FV cX7_drift 6 (some .int) yX7_drift.cls yX7_drift.name 3 0 0 Post 0 0 15 [some (.ref 124), some (.int (nI c)), some (.int (nI i)), l3, l4, l5] [] (lay E J) := by
      refine up_ind (fun i hi ih => ?_)
      intro l3 l4 l5 E hXE hfE
      have okE := ok_dn ok i
      obtain ⟨τ, hτ⟩ : ∃ τ, f_dn σ i = τ := ⟨_, rfl⟩
      rw [hτ] at hXE okE
      obtain ⟨T', n', P', I', B', s'⟩ := τ
      have hM' : MT E 125 T' := hXE.1
      have hP' : PastM E P' := hXE.2.1
      have hI' : ImgM E I' := hXE.2.2.1
      have hB' : BookM E B' := hXE.2.2.2.1
      have hs' : E 124 6 = s' := hXE.2.2.2.2
      have v' : VT T' n' := okE.1
      have h40' := v'.2.1
      have h0' : 0 ≤ s'.toInt := okE.2.2.2.2.2.2
      obtain ⟨x1, hx1⟩ : ∃ x, dv (dw s') 3 = x := ⟨_, rfl⟩
      obtain ⟨x2, hx2⟩ : ∃ x, dv (dw (dw s')) 12 = x := ⟨_, rfl⟩
      obtain ⟨x3, hx3⟩ : ∃ x, dv (dw (dw (dw s'))) 21 = x := ⟨_, rfl⟩
      refine fv_iload_n (q := 16) dX7_drift_15 rfl rfl ?_
      refine fv_iload_n (q := 17) dX7_drift_16 rfl rfl ?_
      refine fv_icmp_ge (q := 20) 95 dX7_drift_17 (by decide) rfl (fun c17 => ?_) (fun c17 => ?_)
      · rw [nI_leI (by omega) (by omega)] at c17
        have hin : i = c := by omega
        refine fv_aload_n (q := 96) dX7_drift_95 rfl rfl ?_
        refine fl_getR (q := 99) dX7_drift_96 fX7_7 sh124 rfl rfl ?_
        refine fv_iconst (v := 0) (q := 100) dX7_drift_99 (by decide) rfl ?_
        refine fl_iald (q := 101) 0 dX7_drift_100 sh125 (by decide) rfl (by decide) rfl ?_
        refine fv_top (y := nI n') ((hM' 0 (by decide)).trans v'.1) ?_
        refine fv_iret dX7_drift_101 rfl rfl (Nat.le_refl _) ?_
        rw [hin] at hτ
        have e9 : f_drift σ (nI c) = (nI (f_dn σ c).2.1, f_dn σ c) := by unfold f_drift; rw [if_neg (by rw [c7]; decide), hcc]
        rw [e9, hτ] at hPost
        exact hPost _ _ _ ⟨rfl, hXE, hfE, fun _ _ => rfl⟩
      · rw [nI_leI (by omega) (by omega)] at c17
        refine fv_aload_n (q := 21) dX7_drift_20 rfl rfl ?_
        refine fl_getR (q := 24) dX7_drift_21 fX7_7 sh124 rfl rfl ?_
        refine fv_iconst (v := 0) (q := 25) dX7_drift_24 (by decide) rfl ?_
        refine fl_iald (q := 26) 0 dX7_drift_25 sh125 (by decide) rfl (by decide) rfl ?_
        refine fv_top (y := nI n') ((hM' 0 (by decide)).trans v'.1) ?_
        refine fv_bipush (v := 40) (q := 28) dX7_drift_26 (by decide) rfl ?_
        refine fv_icmp_ge (q := 31) 95 dX7_drift_28 (by decide) rfl (fun c28 => ?_) (fun c28 => ?_)
        · rw [show (40 : Int32) = nI 40 from rfl, nI_leI (by omega) (by omega)] at c28
          refine fv_aload_n (q := 96) dX7_drift_95 rfl rfl ?_
          refine fl_getR (q := 99) dX7_drift_96 fX7_7 sh124 rfl rfl ?_
          refine fv_iconst (v := 0) (q := 100) dX7_drift_99 (by decide) rfl ?_
          refine fl_iald (q := 101) 0 dX7_drift_100 sh125 (by decide) rfl (by decide) rfl ?_
          refine fv_top (y := nI n') ((hM' 0 (by decide)).trans v'.1) ?_
          refine fv_iret dX7_drift_101 rfl rfl (Nat.le_refl _) ?_
          have hst : f_dn σ c = f_dn σ i := by
            have := dn_stop (σ := σ) (i := i) (by rw [hτ]; show ¬ n' < 40; omega) (c - i)
            rw [show i + (c - i) = c by omega] at this
            exact this
          have e9 : f_drift σ (nI c) = (nI (f_dn σ c).2.1, f_dn σ c) := by unfold f_drift; rw [if_neg (by rw [c7]; decide), hcc]
          rw [e9, hst, hτ] at hPost
          exact hPost _ _ _ ⟨rfl, hXE, hfE, fun _ _ => rfl⟩
        · rw [show (40 : Int32) = nI 40 from rfl, nI_leI (by omega) (by omega)] at c28
          refine fv_aload_n (q := 32) dX7_drift_31 rfl rfl ?_
          refine fv_iconst (v := 3) (q := 33) dX7_drift_32 (by decide) rfl ?_
          refine fl_callV (As := [_]) (q := 36) dX7_drift_33 gX7_197 rfl sh124 rfl rfl (Nat.le_of_ble_eq_true rfl) rfl (by decide) (m_draw E J s' 3 hs' h0' (by decide)) (fun res D1 J1 hp => ?_)
          obtain ⟨rfl, rfl, hD1⟩ := hp
          have hs1 : D1 124 6 = dw s' := by rw [hD1, up_s, pk_us]
          refine fv_top hx1 ?_
          refine fv_istore_n (i := 3) (q := 37) (l' := [_, _, _, _, _, _]) dX7_drift_36 rfl (by decide) rfl rfl rfl ?_
          refine fv_aload_n (q := 38) dX7_drift_37 rfl rfl ?_
          refine fv_bipush (v := 12) (q := 40) dX7_drift_38 (by decide) rfl ?_
          refine fl_callV (As := [_]) (q := 43) dX7_drift_40 gX7_197 rfl sh124 rfl rfl (Nat.le_of_ble_eq_true rfl) rfl (by decide) (m_draw D1 _ (dw s') 12 hs1 (dw_0 _) (by decide)) (fun res D2 J2 hp => ?_)
          obtain ⟨rfl, rfl, hD2⟩ := hp
          have hs2 : D2 124 6 = dw (dw s') := by rw [hD2, up_s, pk_us]
          refine fv_top hx2 ?_
          refine fv_istore (q := 45) (l' := [_, _, _, _, _, _]) dX7_drift_43 (by decide) rfl rfl rfl ?_
          refine fv_aload_n (q := 46) dX7_drift_45 rfl rfl ?_
          refine fv_bipush (v := 21) (q := 48) dX7_drift_46 (by decide) rfl ?_
          refine fl_callV (As := [_]) (q := 51) dX7_drift_48 gX7_197 rfl sh124 rfl rfl (Nat.le_of_ble_eq_true rfl) rfl (by decide) (m_draw D2 _ (dw (dw s')) 21 hs2 (dw_0 _) (by decide)) (fun res D3 J3 hp => ?_)
          obtain ⟨rfl, rfl, hD3⟩ := hp
          have eD3 : D3 = up E 124 6 (dw (dw (dw s'))) := by
            rw [hD3, hD2, hD1]
            funext z
            by_cases q : z = 124
            · subst q; rw [up_s, up_s, up_s, up_s, fa_upd_twice, fa_upd_twice]
            · rw [up_n _ _ _ q, up_n _ _ _ q, up_n _ _ _ q, up_n _ _ _ q]
          have hM3 : MT D3 125 T' := by unfold MT; rw [eD3, up_n _ _ _ (by decide)]; exact hM'
          have hP3 : PastM D3 P' := hP'.of (by rw [eD3, up_s, pk_un (by decide)]) (by rw [eD3, up_n _ _ _ (by decide)])
          refine fv_top hx3 ?_
          refine fv_istore (q := 53) (l' := [_, _, _, _, _, _]) dX7_drift_51 (by decide) rfl rfl rfl ?_
          refine fv_aload_n (q := 54) dX7_drift_53 rfl rfl ?_
          refine fv_iload_n (q := 55) dX7_drift_54 rfl rfl ?_
          refine fv_iload (q := 57) dX7_drift_55 rfl rfl ?_
          refine fv_bipush (v := 11) (q := 59) dX7_drift_57 (by decide) rfl ?_
          refine fv_icmp_ne (q := 62) 67 dX7_drift_59 (by decide) rfl (fun c59 => ?_) (fun c59 => ?_)
          · refine fv_iload (q := 69) dX7_drift_67 rfl rfl ?_
            refine fv_top (y := (if x2 = 11 then 1000000 else x2)) (by rw [if_neg c59]) ?_
            refine fv_iload (q := 71) dX7_drift_69 rfl rfl ?_
            refine fv_bipush (v := 20) (q := 73) dX7_drift_71 (by decide) rfl ?_
            refine fv_icmp_ne (q := 76) 81 dX7_drift_73 (by decide) rfl (fun c73 => ?_) (fun c73 => ?_)
            · refine fv_iload (q := 83) dX7_drift_81 rfl rfl ?_
              refine fv_bipush (v := 10) (q := 85) dX7_drift_83 (by decide) rfl ?_
              refine fv_isub (q := 86) dX7_drift_85 rfl ?_
              refine fv_top (y := (if x3 = 20 then 1000000 else x3 - 10)) (by rw [if_neg c73]) ?_
              refine fl_callV (As := [_, _, _]) (q := 89) dX7_drift_86 gX7_180 rfl sh124 rfl rfl (Nat.le_of_ble_eq_true rfl) rfl (by decide) (m_puts D3 J3 T' n' P' hM3 v'.1 (by omega) hP3 x1 (if x2 = 11 then 1000000 else x2) (if x3 = 20 then 1000000 else x3 - 10)) (fun res D4 J4 hp => ?_)
              obtain ⟨rfl, rfl, hM4, hP4, hK4⟩ := hp
              refine fv_iinc (v := _ + 1) (q := 92) (l' := [_, _, _, _, _, _]) dX7_drift_89 rfl rfl (by decide) rfl rfl rfl ?_
              refine fv_goto 15 dX7_drift_92 (by decide) ?_
              rw [nI_1]
              refine ih (by omega) _ _ _ D4 ?_ (fun a ha => by rw [hK4.2 a (Or.inl ha), eD3, up_n _ _ _ (by omega)]; exact hfE a ha)
              have e9 : f_dn σ (i + 1) = f_d1 (f_dn σ i) := by rw [f_dn, if_pos (by rw [hτ]; show n' < 40; omega)]
              rw [e9, hτ, f_d1_t, hx1, hx2, hx3]
              rw [eD3] at hK4
              exact hK4.sd hI' hB' hM4 hP4
            · refine fv_ldc (q := 78) dX7_drift_76 kX7_66 rfl ?_
              refine fv_top (y := (if x3 = 20 then 1000000 else x3 - 10)) (by rw [if_pos c73]) ?_
              refine fv_goto 86 dX7_drift_78 (by decide) ?_
              refine fl_callV (As := [_, _, _]) (q := 89) dX7_drift_86 gX7_180 rfl sh124 rfl rfl (Nat.le_of_ble_eq_true rfl) rfl (by decide) (m_puts D3 J3 T' n' P' hM3 v'.1 (by omega) hP3 x1 (if x2 = 11 then 1000000 else x2) (if x3 = 20 then 1000000 else x3 - 10)) (fun res D4 J4 hp => ?_)
              obtain ⟨rfl, rfl, hM4, hP4, hK4⟩ := hp
              refine fv_iinc (v := _ + 1) (q := 92) (l' := [_, _, _, _, _, _]) dX7_drift_89 rfl rfl (by decide) rfl rfl rfl ?_
              refine fv_goto 15 dX7_drift_92 (by decide) ?_
              rw [nI_1]
              refine ih (by omega) _ _ _ D4 ?_ (fun a ha => by rw [hK4.2 a (Or.inl ha), eD3, up_n _ _ _ (by omega)]; exact hfE a ha)
              have e9 : f_dn σ (i + 1) = f_d1 (f_dn σ i) := by rw [f_dn, if_pos (by rw [hτ]; show n' < 40; omega)]
              rw [e9, hτ, f_d1_t, hx1, hx2, hx3]
              rw [eD3] at hK4
              exact hK4.sd hI' hB' hM4 hP4
          · refine fv_ldc (q := 64) dX7_drift_62 kX7_66 rfl ?_
            refine fv_top (y := (if x2 = 11 then 1000000 else x2)) (by rw [if_pos c59]) ?_
            refine fv_goto 69 dX7_drift_64 (by decide) ?_
            refine fv_iload (q := 71) dX7_drift_69 rfl rfl ?_
            refine fv_bipush (v := 20) (q := 73) dX7_drift_71 (by decide) rfl ?_
            refine fv_icmp_ne (q := 76) 81 dX7_drift_73 (by decide) rfl (fun c73 => ?_) (fun c73 => ?_)
            · refine fv_iload (q := 83) dX7_drift_81 rfl rfl ?_
              refine fv_bipush (v := 10) (q := 85) dX7_drift_83 (by decide) rfl ?_
              refine fv_isub (q := 86) dX7_drift_85 rfl ?_
              refine fv_top (y := (if x3 = 20 then 1000000 else x3 - 10)) (by rw [if_neg c73]) ?_
              refine fl_callV (As := [_, _, _]) (q := 89) dX7_drift_86 gX7_180 rfl sh124 rfl rfl (Nat.le_of_ble_eq_true rfl) rfl (by decide) (m_puts D3 J3 T' n' P' hM3 v'.1 (by omega) hP3 x1 (if x2 = 11 then 1000000 else x2) (if x3 = 20 then 1000000 else x3 - 10)) (fun res D4 J4 hp => ?_)
              obtain ⟨rfl, rfl, hM4, hP4, hK4⟩ := hp
              refine fv_iinc (v := _ + 1) (q := 92) (l' := [_, _, _, _, _, _]) dX7_drift_89 rfl rfl (by decide) rfl rfl rfl ?_
              refine fv_goto 15 dX7_drift_92 (by decide) ?_
              rw [nI_1]
              refine ih (by omega) _ _ _ D4 ?_ (fun a ha => by rw [hK4.2 a (Or.inl ha), eD3, up_n _ _ _ (by omega)]; exact hfE a ha)
              have e9 : f_dn σ (i + 1) = f_d1 (f_dn σ i) := by rw [f_dn, if_pos (by rw [hτ]; show n' < 40; omega)]
              rw [e9, hτ, f_d1_t, hx1, hx2, hx3]
              rw [eD3] at hK4
              exact hK4.sd hI' hB' hM4 hP4
            · refine fv_ldc (q := 78) dX7_drift_76 kX7_66 rfl ?_
              refine fv_top (y := (if x3 = 20 then 1000000 else x3 - 10)) (by rw [if_pos c73]) ?_
              refine fv_goto 86 dX7_drift_78 (by decide) ?_
              refine fl_callV (As := [_, _, _]) (q := 89) dX7_drift_86 gX7_180 rfl sh124 rfl rfl (Nat.le_of_ble_eq_true rfl) rfl (by decide) (m_puts D3 J3 T' n' P' hM3 v'.1 (by omega) hP3 x1 (if x2 = 11 then 1000000 else x2) (if x3 = 20 then 1000000 else x3 - 10)) (fun res D4 J4 hp => ?_)
              obtain ⟨rfl, rfl, hM4, hP4, hK4⟩ := hp
              refine fv_iinc (v := _ + 1) (q := 92) (l' := [_, _, _, _, _, _]) dX7_drift_89 rfl rfl (by decide) rfl rfl rfl ?_
              refine fv_goto 15 dX7_drift_92 (by decide) ?_
              rw [nI_1]
              refine ih (by omega) _ _ _ D4 ?_ (fun a ha => by rw [hK4.2 a (Or.inl ha), eD3, up_n _ _ _ (by omega)]; exact hfE a ha)
              have e9 : f_dn σ (i + 1) = f_d1 (f_dn σ i) := by rw [f_dn, if_pos (by rw [hτ]; show n' < 40; omega)]
              rw [e9, hτ, f_d1_t, hx1, hx2, hx3]
              rw [eD3] at hK4
              exact hK4.sd hI' hB' hM4 hP4
    exact loop 0 (Nat.zero_le _) _ _ _ D hX (fun _ _ => rfl)
  · rw [bi_0] at c7
    refine fv_ldc (q := 12) dX7_drift_10 kX7_157 rfl ?_
    refine fv_iret dX7_drift_12 rfl rfl (Nat.le_refl _) ?_
    have e9 : f_drift σ k = (-1000000002, σ) := by unfold f_drift; rw [if_pos c7]
    rw [e9] at hPost
    exact hPost _ _ _ ⟨rfl, hX, KM.rf⟩
