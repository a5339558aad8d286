set_option maxHeartbeats 4000000 in
set_option maxRecDepth 100000 in
theorem m_row (D : Nat → Nat → Int32) (J : Nat → Nat → Int64) (σ : Sg) (hX : MR D σ) (ok : SgOk σ) (r w : Int32) : FD yX7_row cX7_row 3 (some .int) 6 [.ref 124, .int r, .int w] D J (fun res D' J' => res = some (.int (f_row σ r w)) ∧ MR D' σ ∧ KM D D' J J') := by
  refine FD.of (by decide) rfl (Nat.le_of_ble_eq_true rfl) (fun Post hPost => ?_)
  show FV _ _ _ _ _ _ _ _ _ _ _ _ [_, _, _] [] _
  obtain ⟨T, n, P, I, B, s⟩ := σ
  have hM : MT D 125 T := hX.1
  have hP : PastM D P := hX.2.1
  have hI : ImgM D I := hX.2.2.1
  have hB : BookM D B := hX.2.2.2.1
  have hs : D 124 6 = s := hX.2.2.2.2
  have v : VT T n := ok.1
  have h40 := v.2.1
  refine fv_aload_n (q := 1) dX7_row_0 rfl rfl ?_
  refine fv_iload_n (q := 2) dX7_row_1 rfl rfl ?_
  refine fl_callVi (As := [_]) (q := 5) dX7_row_2 gX7_131 rfl sh124 rfl rfl (Nat.le_of_ble_eq_true rfl) rfl (by decide) (m_isRow D J T n hM v r) ?_
  refine fv_if_ne (q := 8) 11 dX7_row_5 (by decide) rfl (fun c5 => ?_) (fun c5 => ?_)
  · rw [bi_n'] at c5
    obtain ⟨j, hj, hrj, hjc⟩ := okr_t c5 h40
    subst hrj
    refine fv_aload_n (q := 12) dX7_row_11 rfl rfl ?_
    refine fv_aload_n (q := 13) dX7_row_12 rfl rfl ?_
    refine fl_getR (q := 16) dX7_row_13 fX7_7 sh124 rfl rfl ?_
    refine fl_callV (As := [_]) (q := 19) dX7_row_16 gX7_139 rfl sh124 rfl rfl (Nat.le_of_ble_eq_true rfl) rfl (by decide) (m_stands 125 sh125 D _ T hM n v (by decide)) (fun res D1 J1 hp => ?_)
    obtain ⟨rfl, rfl, hL, hf1⟩ := hp
    have hR1 := KR.st hf1
    have hM1 := hR1.mt hM
    refine fv_iload_n (q := 20) dX7_row_19 rfl rfl ?_
    have hpp := pos_part (T := T) hj
    have hg := g_part v hj
    have w0 : w = 0 → FV cX7_row 3 (some .int) yX7_row.cls yX7_row.name 6 0 0 Post 0 0 72 [some (.ref 124), some (.int (nI j)), some (.int w)] [] (lay D1 J1) := by
      intro h0
      refine fv_aload_n (q := 73) dX7_row_72 rfl rfl ?_
      refine fl_getR (q := 76) dX7_row_73 fX7_7 sh124 rfl rfl ?_
      refine fv_bipush (v := 6) (q := 78) dX7_row_76 (by decide) rfl ?_
      refine fv_iload_n (q := 79) dX7_row_78 rfl rfl ?_
      refine fv_iadd (q := 80) dX7_row_79 rfl ?_
      refine fl_iald (q := 81) (6 + j) dX7_row_80 sh125 (by decide) (nI_add 6 j) (by omega) rfl ?_
      refine fv_top (y := pa T j) (hM1 _ (by omega)) ?_
      refine fv_iret dX7_row_81 rfl rfl (Nat.le_refl _) ?_
      exact hPost _ _ _ ⟨by unfold f_row; rw [if_neg (by rw [c5]; decide), if_pos h0, hjc], hR1.mr hX, hR1.kj⟩
    have w1 : ¬ w = 0 → w = 1 → FV cX7_row 3 (some .int) yX7_row.cls yX7_row.name 6 0 0 Post 0 0 82 [some (.ref 124), some (.int (nI j)), some (.int w)] [] (lay D1 J1) := by
      intro h0 h1
      refine fv_aload_n (q := 83) dX7_row_82 rfl rfl ?_
      refine fl_getR (q := 86) dX7_row_83 fX7_7 sh124 rfl rfl ?_
      refine fv_bipush (v := 46) (q := 88) dX7_row_86 (by decide) rfl ?_
      refine fv_iload_n (q := 89) dX7_row_88 rfl rfl ?_
      refine fv_iadd (q := 90) dX7_row_89 rfl ?_
      refine fl_iald (q := 91) (46 + j) dX7_row_90 sh125 (by decide) (nI_add 46 j) (by omega) rfl ?_
      refine fv_top (y := ke T j) (hM1 _ (by omega)) ?_
      refine fv_iret dX7_row_91 rfl rfl (Nat.le_refl _) ?_
      exact hPost _ _ _ ⟨by unfold f_row; rw [if_neg (by rw [c5]; decide), if_neg h0, if_pos h1, hjc], hR1.mr hX, hR1.kj⟩
    have w2 : ¬ w = 0 → ¬ w = 1 → w = 2 → FV cX7_row 3 (some .int) yX7_row.cls yX7_row.name 6 0 0 Post 0 0 92 [some (.ref 124), some (.int (nI j)), some (.int w)] [] (lay D1 J1) := by
      intro h0 h1 h2
      refine fv_aload_n (q := 93) dX7_row_92 rfl rfl ?_
      refine fl_getR (q := 96) dX7_row_93 fX7_7 sh124 rfl rfl ?_
      refine fv_bipush (v := 86) (q := 98) dX7_row_96 (by decide) rfl ?_
      refine fv_iload_n (q := 99) dX7_row_98 rfl rfl ?_
      refine fv_iadd (q := 100) dX7_row_99 rfl ?_
      refine fl_iald (q := 101) (86 + j) dX7_row_100 sh125 (by decide) (nI_add 86 j) (by omega) rfl ?_
      refine fv_top (y := wo T j) (hM1 _ (by omega)) ?_
      refine fv_iret dX7_row_101 rfl rfl (Nat.le_refl _) ?_
      exact hPost _ _ _ ⟨by unfold f_row; rw [if_neg (by rw [c5]; decide), if_neg h0, if_neg h1, if_pos h2, hjc], hR1.mr hX, hR1.kj⟩
    have w3 : ¬ w = 0 → ¬ w = 1 → ¬ w = 2 → w = 3 → FV cX7_row 3 (some .int) yX7_row.cls yX7_row.name 6 0 0 Post 0 0 102 [some (.ref 124), some (.int (nI j)), some (.int w)] [] (lay D1 J1) := by
      intro h0 h1 h2 h3
      refine fv_aload_n (q := 103) dX7_row_102 rfl rfl ?_
      refine fl_getR (q := 106) dX7_row_103 fX7_32 sh124 rfl rfl ?_
      refine fv_iload_n (q := 107) dX7_row_106 rfl rfl ?_
      refine fl_iald (q := 108) _ dX7_row_107 sh132 (by decide) rfl (by omega) rfl ?_
      refine fv_top (y := nI (pos T n j)) (hL.2.1 j hj) ?_
      refine fv_aload_n (q := 109) dX7_row_108 rfl rfl ?_
      refine fl_getR (q := 112) dX7_row_109 fX7_35 sh124 rfl rfl ?_
      refine fv_iload_n (q := 113) dX7_row_112 rfl rfl ?_
      refine fl_iald (q := 114) _ dX7_row_113 sh133 (by decide) rfl (by omega) rfl ?_
      refine fv_top (y := nI (pf T n j)) (hL.2.2.1 j hj) ?_
      refine fv_isub (q := 115) dX7_row_114 rfl ?_
      refine fv_top (pk_sub hpp.1) ?_
      refine fv_iret dX7_row_115 rfl rfl (Nat.le_refl _) ?_
      exact hPost _ _ _ ⟨by unfold f_row; rw [if_neg (by rw [c5]; decide), if_neg h0, if_neg h1, if_neg h2, if_pos h3, hjc], hR1.mr hX, hR1.kj⟩
    have w4 : ¬ w = 0 → ¬ w = 1 → ¬ w = 2 → ¬ w = 3 → w = 4 → FV cX7_row 3 (some .int) yX7_row.cls yX7_row.name 6 0 0 Post 0 0 116 [some (.ref 124), some (.int (nI j)), some (.int w)] [] (lay D1 J1) := by
      intro h0 h1 h2 h3 h4
      refine fv_aload_n (q := 117) dX7_row_116 rfl rfl ?_
      refine fl_getR (q := 120) dX7_row_117 fX7_41 sh124 rfl rfl ?_
      refine fv_iload_n (q := 121) dX7_row_120 rfl rfl ?_
      refine fl_iald (q := 122) _ dX7_row_121 sh135 (by decide) rfl (by omega) rfl ?_
      refine fv_top (y := nI (gf T n j)) (hL.2.2.2.2.1 j hj) ?_
      refine fv_aload_n (q := 123) dX7_row_122 rfl rfl ?_
      refine fl_getR (q := 126) dX7_row_123 fX7_35 sh124 rfl rfl ?_
      refine fv_iload_n (q := 127) dX7_row_126 rfl rfl ?_
      refine fl_iald (q := 128) _ dX7_row_127 sh133 (by decide) rfl (by omega) rfl ?_
      refine fv_top (y := nI (pf T n j)) (hL.2.2.1 j hj) ?_
      refine fv_isub (q := 129) dX7_row_128 rfl ?_
      refine fv_top (pk_sub hg.1) ?_
      refine fv_iconst (v := 1) (q := 130) dX7_row_129 (by decide) rfl ?_
      refine fv_iadd (q := 131) dX7_row_130 rfl ?_
      refine fv_top (y := nI (1 + (gf T n j - pf T n j))) (by rw [nI_1, Nat.add_comm]) ?_
      refine fv_iret dX7_row_131 rfl rfl (Nat.le_refl _) ?_
      exact hPost _ _ _ ⟨by unfold f_row; rw [if_neg (by rw [c5]; decide), if_neg h0, if_neg h1, if_neg h2, if_neg h3, if_pos h4, hjc], hR1.mr hX, hR1.kj⟩
    have w5 : ¬ w = 0 → ¬ w = 1 → ¬ w = 2 → ¬ w = 3 → ¬ w = 4 → w = 5 → FV cX7_row 3 (some .int) yX7_row.cls yX7_row.name 6 0 0 Post 0 0 132 [some (.ref 124), some (.int (nI j)), some (.int w)] [] (lay D1 J1) := by
      intro h0 h1 h2 h3 h4 h5
      refine fv_aload_n (q := 133) dX7_row_132 rfl rfl ?_
      refine fl_getR (q := 136) dX7_row_133 fX7_47 sh124 rfl rfl ?_
      refine fv_iload_n (q := 137) dX7_row_136 rfl rfl ?_
      refine fl_iald (q := 138) _ dX7_row_137 sh137 (by decide) rfl (by omega) rfl ?_
      refine fv_top (y := nI (gr T n j)) (hL.2.2.2.2.2.2 j hj) ?_
      refine fv_iconst (v := 1) (q := 139) dX7_row_138 (by decide) rfl ?_
      refine fv_iadd (q := 140) dX7_row_139 rfl ?_
      refine fv_top (y := nI (1 + gr T n j)) (by rw [nI_1, Nat.add_comm]) ?_
      refine fv_iret dX7_row_140 rfl rfl (Nat.le_refl _) ?_
      exact hPost _ _ _ ⟨by unfold f_row; rw [if_neg (by rw [c5]; decide), if_neg h0, if_neg h1, if_neg h2, if_neg h3, if_neg h4, if_pos h5, hjc], hR1.mr hX, hR1.kj⟩
    have w6 : ¬ w = 0 → ¬ w = 1 → ¬ w = 2 → ¬ w = 3 → ¬ w = 4 → ¬ w = 5 → w = 6 → FV cX7_row 3 (some .int) yX7_row.cls yX7_row.name 6 0 0 Post 0 0 141 [some (.ref 124), some (.int (nI j)), some (.int w)] [] (lay D1 J1) := by
      intro h0 h1 h2 h3 h4 h5 h6
      refine fv_aload_n (q := 142) dX7_row_141 rfl rfl ?_
      refine fl_getR (q := 145) dX7_row_142 fX7_44 sh124 rfl rfl ?_
      refine fv_iload_n (q := 146) dX7_row_145 rfl rfl ?_
      refine fl_iald (q := 147) _ dX7_row_146 sh136 (by decide) rfl (by omega) rfl ?_
      refine fv_top (y := nI (gm T n j)) (hL.2.2.2.2.2.1 j hj) ?_
      refine fv_iret dX7_row_147 rfl rfl (Nat.le_refl _) ?_
      exact hPost _ _ _ ⟨by unfold f_row; rw [if_neg (by rw [c5]; decide), if_neg h0, if_neg h1, if_neg h2, if_neg h3, if_neg h4, if_neg h5, if_pos h6, hjc], hR1.mr hX, hR1.kj⟩
    have w7 : ¬ w = 0 → ¬ w = 1 → ¬ w = 2 → ¬ w = 3 → ¬ w = 4 → ¬ w = 5 → ¬ w = 6 → w = 7 → FV cX7_row 3 (some .int) yX7_row.cls yX7_row.name 6 0 0 Post 0 0 148 [some (.ref 124), some (.int (nI j)), some (.int w)] [] (lay D1 J1) := by
      intro h0 h1 h2 h3 h4 h5 h6 h7
      refine fv_aload_n (q := 149) dX7_row_148 rfl rfl ?_
      refine fl_getR (q := 152) dX7_row_149 fX7_32 sh124 rfl rfl ?_
      refine fv_iload_n (q := 153) dX7_row_152 rfl rfl ?_
      refine fl_iald (q := 154) _ dX7_row_153 sh132 (by decide) rfl (by omega) rfl ?_
      refine fv_top (y := nI (pos T n j)) (hL.2.1 j hj) ?_
      refine fv_iret dX7_row_154 rfl rfl (Nat.le_refl _) ?_
      exact hPost _ _ _ ⟨by unfold f_row; rw [if_neg (by rw [c5]; decide), if_neg h0, if_neg h1, if_neg h2, if_neg h3, if_neg h4, if_neg h5, if_neg h6, if_pos h7, hjc], hR1.mr hX, hR1.kj⟩
    have w8 : ¬ w = 0 → ¬ w = 1 → ¬ w = 2 → ¬ w = 3 → ¬ w = 4 → ¬ w = 5 → ¬ w = 6 → ¬ w = 7 → w = 8 → FV cX7_row 3 (some .int) yX7_row.cls yX7_row.name 6 0 0 Post 0 0 155 [some (.ref 124), some (.int (nI j)), some (.int w)] [] (lay D1 J1) := by
      intro h0 h1 h2 h3 h4 h5 h6 h7 h8
      refine fv_aload_n (q := 156) dX7_row_155 rfl rfl ?_
      refine fv_iload_n (q := 157) dX7_row_156 rfl rfl ?_
      refine fl_callV (As := [_]) (q := 160) dX7_row_157 gX7_166 rfl sh124 rfl rfl (Nat.le_of_ble_eq_true rfl) rfl (by decide) (m_changedBy D1 J1 T n hM1 v hL j hj) (fun res D2 J2 hp => ?_)
      obtain ⟨rfl, rfl, hR2⟩ := hp
      refine fv_iret dX7_row_160 rfl rfl (Nat.le_refl _) ?_
      exact hPost _ _ _ ⟨by unfold f_row; rw [if_neg (by rw [c5]; decide), if_neg h0, if_neg h1, if_neg h2, if_neg h3, if_neg h4, if_neg h5, if_neg h6, if_neg h7, if_pos h8, hjc], (hR1.tr hR2).mr hX, (hR1.tr hR2).kj⟩
    have wd : ¬ w = 0 → ¬ w = 1 → ¬ w = 2 → ¬ w = 3 → ¬ w = 4 → ¬ w = 5 → ¬ w = 6 → ¬ w = 7 → ¬ w = 8 → FV cX7_row 3 (some .int) yX7_row.cls yX7_row.name 6 0 0 Post 0 0 161 [some (.ref 124), some (.int (nI j)), some (.int w)] [] (lay D1 J1) := by
      intro h0 h1 h2 h3 h4 h5 h6 h7 h8
      refine fv_ldc (q := 163) dX7_row_161 kX7_157 rfl ?_
      refine fv_iret dX7_row_163 rfl rfl (Nat.le_refl _) ?_
      exact hPost _ _ _ ⟨by unfold f_row; rw [if_neg (by rw [c5]; decide), if_neg h0, if_neg h1, if_neg h2, if_neg h3, if_neg h4, if_neg h5, if_neg h6, if_neg h7, if_neg h8], hR1.mr hX, hR1.kj⟩
    by_cases h0 : w = 0
    · refine fv_top h0 ?_
      exact fv_tableIn 72 dX7_row_20 (by decide) (by decide) rfl (by decide) (w0 h0)
    · skip
      by_cases h1 : w = 1
      · refine fv_top h1 ?_
        exact fv_tableIn 82 dX7_row_20 (by decide) (by decide) rfl (by decide) (w1 h0 h1)
      · skip
        by_cases h2 : w = 2
        · refine fv_top h2 ?_
          exact fv_tableIn 92 dX7_row_20 (by decide) (by decide) rfl (by decide) (w2 h0 h1 h2)
        · skip
          by_cases h3 : w = 3
          · refine fv_top h3 ?_
            exact fv_tableIn 102 dX7_row_20 (by decide) (by decide) rfl (by decide) (w3 h0 h1 h2 h3)
          · skip
            by_cases h4 : w = 4
            · refine fv_top h4 ?_
              exact fv_tableIn 116 dX7_row_20 (by decide) (by decide) rfl (by decide) (w4 h0 h1 h2 h3 h4)
            · skip
              by_cases h5 : w = 5
              · refine fv_top h5 ?_
                exact fv_tableIn 132 dX7_row_20 (by decide) (by decide) rfl (by decide) (w5 h0 h1 h2 h3 h4 h5)
              · skip
                by_cases h6 : w = 6
                · refine fv_top h6 ?_
                  exact fv_tableIn 141 dX7_row_20 (by decide) (by decide) rfl (by decide) (w6 h0 h1 h2 h3 h4 h5 h6)
                · skip
                  by_cases h7 : w = 7
                  · refine fv_top h7 ?_
                    exact fv_tableIn 148 dX7_row_20 (by decide) (by decide) rfl (by decide) (w7 h0 h1 h2 h3 h4 h5 h6 h7)
                  · skip
                    by_cases h8 : w = 8
                    · refine fv_top h8 ?_
                      exact fv_tableIn 155 dX7_row_20 (by decide) (by decide) rfl (by decide) (w8 h0 h1 h2 h3 h4 h5 h6 h7 h8)
                    · skip
                      have k0 : (w).toInt ≠ 0 := fun z => h0 (by rw [fa_eq]; exact z)
                      have k1 : (w).toInt ≠ 1 := fun z => h1 (by rw [fa_eq]; exact z)
                      have k2 : (w).toInt ≠ 2 := fun z => h2 (by rw [fa_eq]; exact z)
                      have k3 : (w).toInt ≠ 3 := fun z => h3 (by rw [fa_eq]; exact z)
                      have k4 : (w).toInt ≠ 4 := fun z => h4 (by rw [fa_eq]; exact z)
                      have k5 : (w).toInt ≠ 5 := fun z => h5 (by rw [fa_eq]; exact z)
                      have k6 : (w).toInt ≠ 6 := fun z => h6 (by rw [fa_eq]; exact z)
                      have k7 : (w).toInt ≠ 7 := fun z => h7 (by rw [fa_eq]; exact z)
                      have k8 : (w).toInt ≠ 8 := fun z => h8 (by rw [fa_eq]; exact z)
                      exact fv_tableOut 161 dX7_row_20 (by omega) (by decide) (wd h0 h1 h2 h3 h4 h5 h6 h7 h8)
  · rw [bi_0] at c5
    refine fv_ldc (q := 10) dX7_row_8 kX7_165 rfl ?_
    refine fv_iret dX7_row_10 rfl rfl (Nat.le_refl _) ?_
    exact hPost _ _ _ ⟨by unfold f_row; rw [if_pos c5], hX, KM.rf⟩
set_option maxHeartbeats 4000000 in
set_option maxRecDepth 100000 in
theorem m_standing (D : Nat → Nat → Int32) (J : Nat → Nat → Int64) (σ : Sg) (hX : MR D σ) (ok : SgOk σ) (k : Int32) : FD yX7_standing cX7_standing 2 (some .int) 3 [.ref 124, .int k] D J (fun res D' J' => res = some (.int (f_standing σ k)) ∧ MR D' σ ∧ KM D D' J J') := by
  refine FD.of (by decide) rfl (Nat.le_of_ble_eq_true rfl) (fun Post hPost => ?_)
  show FV _ _ _ _ _ _ _ _ _ _ _ _ [_, _] [] _
  obtain ⟨T, n, P, I, B, s⟩ := σ
  have hM : MT D 125 T := hX.1
  have hP : PastM D P := hX.2.1
  have hI : ImgM D I := hX.2.2.1
  have hB : BookM D B := hX.2.2.2.1
  have hs : D 124 6 = s := hX.2.2.2.2
  have v : VT T n := ok.1
  have h40 := v.2.1
  refine fv_aload_n (q := 1) dX7_standing_0 rfl rfl ?_
  refine fv_aload_n (q := 2) dX7_standing_1 rfl rfl ?_
  refine fl_getR (q := 5) dX7_standing_2 fX7_7 sh124 rfl rfl ?_
  refine fl_callV (As := [_]) (q := 8) dX7_standing_5 gX7_139 rfl sh124 rfl rfl (Nat.le_of_ble_eq_true rfl) rfl (by decide) (m_stands 125 sh125 D _ T hM n v (by decide)) (fun res D1 J1 hp => ?_)
  obtain ⟨rfl, rfl, hL, hf1⟩ := hp
  have hR1 := KR.st hf1
  have hM1 := hR1.mt hM
  refine fv_iload_n (q := 9) dX7_standing_8 rfl rfl ?_
  refine fv_iconst (v := 0) (q := 10) dX7_standing_9 (by decide) rfl ?_
  refine fv_aload_n (q := 11) dX7_standing_10 rfl rfl ?_
  refine fl_getR (q := 14) dX7_standing_11 fX7_7 sh124 rfl rfl ?_
  refine fv_iconst (v := 0) (q := 15) dX7_standing_14 (by decide) rfl ?_
  refine fl_iald (q := 16) 0 dX7_standing_15 sh125 (by decide) rfl (by decide) rfl ?_
  refine fv_top (y := nI n) ((hM1 0 (by decide)).trans v.1) ?_
  refine fv_iconst (v := 1) (q := 17) dX7_standing_16 (by decide) rfl ?_
  refine fv_isub (q := 18) dX7_standing_17 rfl ?_
  refine fl_callSi (As := [_, _, _]) (q := 21) dX7_standing_18 gX7_120 rfl rfl (Nat.le_of_ble_eq_true rfl) rfl (by decide) (m_in D1 J1 _ _ _) ?_
  refine fv_top (y := bi (okr n k)) (by rw [okr_w h40]) ?_
  refine fv_if_eq (q := 24) 33 dX7_standing_21 (by decide) rfl (fun c21 => ?_) (fun c21 => ?_)
  · rw [bi_0] at c21
    refine fv_iconst (v := (-1)) (q := 34) dX7_standing_33 (by decide) rfl ?_
    refine fv_iret dX7_standing_34 rfl rfl (Nat.le_refl _) ?_
    exact hPost _ _ _ ⟨by unfold f_standing; rw [if_pos c21], hR1.mr hX, hR1.kj⟩
  · rw [bi_n'] at c21
    obtain ⟨j, hj, hrj, hjc⟩ := okr_t c21 h40
    subst hrj
    refine fv_aload_n (q := 25) dX7_standing_24 rfl rfl ?_
    refine fl_getR (q := 28) dX7_standing_25 fX7_29 sh124 rfl rfl ?_
    refine fv_iload_n (q := 29) dX7_standing_28 rfl rfl ?_
    refine fl_iald (q := 30) j dX7_standing_29 sh131 (by decide) rfl (by omega) rfl ?_
    refine fv_top (y := nI (lin T n j)) (hL.1 j hj) ?_
    refine fv_goto 34 dX7_standing_30 (by decide) ?_
    refine fv_iret dX7_standing_34 rfl rfl (Nat.le_refl _) ?_
    exact hPost _ _ _ ⟨by unfold f_standing; rw [if_neg (by rw [c21]; decide), hjc], hR1.mr hX, hR1.kj⟩
set_option maxHeartbeats 4000000 in
set_option maxRecDepth 100000 in
theorem m_of (D : Nat → Nat → Int32) (J : Nat → Nat → Int64) (σ : Sg) (hX : MR D σ) (ok : SgOk σ) (r w : Int32) : FD yX7_of cX7_of 3 (some .int) 5 [.ref 124, .int r, .int w] D J (fun res D' J' => res = some (.int (f_of σ r w)) ∧ MR D' σ ∧ KM D D' J J') := by
  refine FD.of (by decide) rfl (Nat.le_of_ble_eq_true rfl) (fun Post hPost => ?_)
  show FV _ _ _ _ _ _ _ _ _ _ _ _ [_, _, _] [] _
  obtain ⟨T, n, P, I, B, s⟩ := σ
  have hM : MT D 125 T := hX.1
  have hP : PastM D P := hX.2.1
  have hI : ImgM D I := hX.2.2.1
  have hB : BookM D B := hX.2.2.2.1
  have hs : D 124 6 = s := hX.2.2.2.2
  have v : VT T n := ok.1
  have h40 := v.2.1
  refine fv_aload_n (q := 1) dX7_of_0 rfl rfl ?_
  refine fv_iload_n (q := 2) dX7_of_1 rfl rfl ?_
  refine fl_callVi (As := [_]) (q := 5) dX7_of_2 gX7_131 rfl sh124 rfl rfl (Nat.le_of_ble_eq_true rfl) rfl (by decide) (m_isRow D J T n hM v r) ?_
  refine fv_if_ne (q := 8) 11 dX7_of_5 (by decide) rfl (fun c5 => ?_) (fun c5 => ?_)
  · rw [bi_n'] at c5
    obtain ⟨j, hj, hrj, hjc⟩ := okr_t c5 h40
    subst hrj
    refine fv_iload_n (q := 12) dX7_of_11 rfl rfl ?_
    refine fv_iconst (v := 0) (q := 13) dX7_of_12 (by decide) rfl ?_
    refine fv_bipush (v := 8) (q := 15) dX7_of_13 (by decide) rfl ?_
    refine fl_callSi (As := [_, _, _]) (q := 18) dX7_of_15 gX7_120 rfl rfl (Nat.le_of_ble_eq_true rfl) rfl (by decide) (m_in D J w 0 8) ?_
    refine fv_if_ne (q := 21) 24 dX7_of_18 (by decide) rfl (fun c18 => ?_) (fun c18 => ?_)
    · rw [bi_n'] at c18
      refine fv_aload_n (q := 25) dX7_of_24 rfl rfl ?_
      refine fv_aload_n (q := 26) dX7_of_25 rfl rfl ?_
      refine fl_getR (q := 29) dX7_of_26 fX7_7 sh124 rfl rfl ?_
      refine fl_callV (As := [_]) (q := 32) dX7_of_29 gX7_139 rfl sh124 rfl rfl (Nat.le_of_ble_eq_true rfl) rfl (by decide) (m_stands 125 sh125 D _ T hM n v (by decide)) (fun res D1 J1 hp => ?_)
      obtain ⟨rfl, rfl, hL, hf1⟩ := hp
      have hR1 := KR.st hf1
      have hM1 := hR1.mt hM
      refine fv_aload_n (q := 33) dX7_of_32 rfl rfl ?_
      refine fv_aload_n (q := 34) dX7_of_33 rfl rfl ?_
      refine fl_getR (q := 37) dX7_of_34 fX7_7 sh124 rfl rfl ?_
      refine fv_iload_n (q := 38) dX7_of_37 rfl rfl ?_
      refine fv_iload_n (q := 39) dX7_of_38 rfl rfl ?_
      refine fl_callV (As := [_, _, _]) (q := 42) dX7_of_39 gX7_135 rfl sh124 rfl rfl (Nat.le_of_ble_eq_true rfl) rfl (by decide) (m_ofFrame 125 sh125 D1 J1 T hM1 n v ⟨by decide, by decide⟩ hL j hj w) (fun res D2 J2 hp => ?_)
      obtain ⟨rfl, rfl, hK2⟩ := hp
      refine fv_iret dX7_of_42 rfl rfl (Nat.le_refl _) ?_
      exact hPost _ _ _ ⟨by unfold f_of; rw [if_neg (by rw [c5]; decide), if_neg (by rw [c18]; decide), hjc], (hR1.tr hK2.kr).mr hX, (hR1.tr hK2.kr).kj⟩
    · rw [bi_0] at c18
      refine fv_ldc (q := 23) dX7_of_21 kX7_157 rfl ?_
      refine fv_iret dX7_of_23 rfl rfl (Nat.le_refl _) ?_
      exact hPost _ _ _ ⟨by unfold f_of; rw [if_neg (by rw [c5]; decide), if_pos c18], hX, KM.rf⟩
  · rw [bi_0] at c5
    refine fv_ldc (q := 10) dX7_of_8 kX7_165 rfl ?_
    refine fv_iret dX7_of_10 rfl rfl (Nat.le_refl _) ?_
    exact hPost _ _ _ ⟨by unfold f_of; rw [if_pos c5], hX, KM.rf⟩
set_option maxHeartbeats 4000000 in
set_option maxRecDepth 100000 in
theorem m_rows (D : Nat → Nat → Int32) (J : Nat → Nat → Int64) (σ : Sg) (hX : MR D σ) (ok : SgOk σ) (r : Int32) : FD yX7_rows cX7_rows 2 (some .long) 5 [.ref 124, .int r] D J (fun res D' J' => res = some (.long (f_rows σ r)) ∧ MR D' σ ∧ KM D D' J J') := by
  refine FD.of (by decide) rfl (Nat.le_of_ble_eq_true rfl) (fun Post hPost => ?_)
  show FV _ _ _ _ _ _ _ _ _ _ _ _ [_, _] [] _
  obtain ⟨T, n, P, I, B, s⟩ := σ
  have hM : MT D 125 T := hX.1
  have hP : PastM D P := hX.2.1
  have hI : ImgM D I := hX.2.2.1
  have hB : BookM D B := hX.2.2.2.1
  have hs : D 124 6 = s := hX.2.2.2.2
  have v : VT T n := ok.1
  have h40 := v.2.1
  refine fv_aload_n (q := 1) dX7_rows_0 rfl rfl ?_
  refine fv_iload_n (q := 2) dX7_rows_1 rfl rfl ?_
  refine fl_callVi (As := [_]) (q := 5) dX7_rows_2 gX7_131 rfl sh124 rfl rfl (Nat.le_of_ble_eq_true rfl) rfl (by decide) (m_isRow D J T n hM v r) ?_
  refine fv_if_ne (q := 8) 10 dX7_rows_5 (by decide) rfl (fun c5 => ?_) (fun c5 => ?_)
  · rw [bi_n'] at c5
    obtain ⟨j, hj, hrj, hjc⟩ := okr_t c5 h40
    subst hrj
    refine fv_aload_n (q := 11) dX7_rows_10 rfl rfl ?_
    refine fv_aload_n (q := 12) dX7_rows_11 rfl rfl ?_
    refine fl_getR (q := 15) dX7_rows_12 fX7_7 sh124 rfl rfl ?_
    refine fl_callV (As := [_]) (q := 18) dX7_rows_15 gX7_139 rfl sh124 rfl rfl (Nat.le_of_ble_eq_true rfl) rfl (by decide) (m_stands 125 sh125 D _ T hM n v (by decide)) (fun res D1 J1 hp => ?_)
    obtain ⟨rfl, rfl, hL, hf1⟩ := hp
    have hR1 := KR.st hf1
    have hM1 := hR1.mt hM
    refine fv_aload_n (q := 19) dX7_rows_18 rfl rfl ?_
    refine fv_iload_n (q := 20) dX7_rows_19 rfl rfl ?_
    refine fl_callV (As := [_]) (q := 23) dX7_rows_20 gX7_124 rfl sh124 rfl rfl (Nat.le_of_ble_eq_true rfl) rfl (by decide) (m_setOf D1 J1 T n hM1 v hL j hj) (fun res D2 J2 hp => ?_)
    obtain ⟨rfl, rfl, hK2⟩ := hp
    refine fv_lret dX7_rows_23 rfl rfl (Nat.le_refl _) ?_
    exact hPost _ _ _ ⟨by unfold f_rows; rw [if_neg (by rw [c5]; decide), hjc], (hR1.tr hK2.kr).mr hX, (hR1.tr hK2.kr).kj⟩
  · rw [bi_0] at c5
    refine fv_lconst (v := 0) (q := 9) dX7_rows_8 (by decide) rfl ?_
    refine fv_lret dX7_rows_9 rfl rfl (Nat.le_refl _) ?_
    exact hPost _ _ _ ⟨by unfold f_rows; rw [if_pos c5], hX, KM.rf⟩
theorem rwI_w {L : List Nat} {k : Int32} (hL : L.length ≤ 40) (h : okr L.length k = false) : rwI L k = -1 := by
  unfold rwI
  rcases okr_f h with q | q
  · rw [if_pos q]
  · by_cases z : k < 0
    · rw [if_pos z]
    · rw [if_neg z, if_pos q]
theorem rwI_j {L : List Nat} {j : Nat} (hL : L.length ≤ 40) (h : j < L.length) : rwI L (nI j) = nI (L.getD j 0) := by
  unfold rwI
  rw [if_neg (nI_pos (by omega)), if_neg (nI_ge h (by omega)), nI_clamp (by omega)]
set_option maxHeartbeats 4000000 in
set_option maxRecDepth 100000 in
theorem m_inFrame (D : Nat → Nat → Int32) (J : Nat → Nat → Int64) (σ : Sg) (hX : MR D σ) (ok : SgOk σ) (r k : Int32) : FD yX7_inFrame cX7_inFrame 3 (some .int) 4 [.ref 124, .int r, .int k] D J (fun res D' J' => res = some (.int (f_inFrame σ r k)) ∧ MR D' σ ∧ KM D D' J J') := by
  refine FD.of (by decide) rfl (Nat.le_of_ble_eq_true rfl) (fun Post hPost => ?_)
  show FV _ _ _ _ _ _ _ _ _ _ _ _ [_, _, _] [] _
  obtain ⟨T, n, P, I, B, s⟩ := σ
  have hM : MT D 125 T := hX.1
  have hP : PastM D P := hX.2.1
  have hI : ImgM D I := hX.2.2.1
  have hB : BookM D B := hX.2.2.2.1
  have hs : D 124 6 = s := hX.2.2.2.2
  have v : VT T n := ok.1
  have h40 := v.2.1
  refine fv_aload_n (q := 1) dX7_inFrame_0 rfl rfl ?_
  refine fv_iload_n (q := 2) dX7_inFrame_1 rfl rfl ?_
  refine fl_callVi (As := [_]) (q := 5) dX7_inFrame_2 gX7_131 rfl sh124 rfl rfl (Nat.le_of_ble_eq_true rfl) rfl (by decide) (m_isRow D J T n hM v r) ?_
  refine fv_if_ne (q := 8) 11 dX7_inFrame_5 (by decide) rfl (fun c5 => ?_) (fun c5 => ?_)
  · rw [bi_n'] at c5
    obtain ⟨j, hj, hrj, hjc⟩ := okr_t c5 h40
    subst hrj
    refine fv_aload_n (q := 12) dX7_inFrame_11 rfl rfl ?_
    refine fv_aload_n (q := 13) dX7_inFrame_12 rfl rfl ?_
    refine fl_getR (q := 16) dX7_inFrame_13 fX7_7 sh124 rfl rfl ?_
    refine fl_callV (As := [_]) (q := 19) dX7_inFrame_16 gX7_139 rfl sh124 rfl rfl (Nat.le_of_ble_eq_true rfl) rfl (by decide) (m_stands 125 sh125 D _ T hM n v (by decide)) (fun res D1 J1 hp => ?_)
    obtain ⟨rfl, rfl, hL, hf1⟩ := hp
    have hR1 := KR.st hf1
    have hM1 := hR1.mt hM
    refine fv_aload_n (q := 20) dX7_inFrame_19 rfl rfl ?_
    refine fv_aload_n (q := 21) dX7_inFrame_20 rfl rfl ?_
    refine fl_getR (q := 24) dX7_inFrame_21 fX7_7 sh124 rfl rfl ?_
    refine fv_iload_n (q := 25) dX7_inFrame_24 rfl rfl ?_
    refine fl_callV (As := [_, _]) (q := 28) dX7_inFrame_25 gX7_106 rfl sh124 rfl rfl (Nat.le_of_ble_eq_true rfl) rfl (by decide) (m_frames 125 sh125 D1 J1 T hM1 n v ⟨by decide, by decide⟩ hL j hj) (fun res D2 J2 hp => ?_)
    obtain ⟨rfl, rfl, hK2, hS⟩ := hp
    have hlen : (frL T n j n).length ≤ 40 := by have := frL_len T n j n; omega
    refine fv_iload_n (q := 29) dX7_inFrame_28 rfl rfl ?_
    refine fv_iconst (v := 0) (q := 30) dX7_inFrame_29 (by decide) rfl ?_
    refine fv_aload_n (q := 31) dX7_inFrame_30 rfl rfl ?_
    refine fl_getI (q := 34) dX7_inFrame_31 fX7_100 sh124 rfl rfl ?_
    refine fv_top (y := nI (frL T n j n).length) hS.1 ?_
    refine fv_iconst (v := 1) (q := 35) dX7_inFrame_34 (by decide) rfl ?_
    refine fv_isub (q := 36) dX7_inFrame_35 rfl ?_
    refine fl_callSi (As := [_, _, _]) (q := 39) dX7_inFrame_36 gX7_120 rfl rfl (Nat.le_of_ble_eq_true rfl) rfl (by decide) (m_in D2 J2 _ _ _) ?_
    refine fv_top (y := bi (okr (frL T n j n).length k)) (by rw [okr_w hlen]) ?_
    refine fv_if_eq (q := 42) 51 dX7_inFrame_39 (by decide) rfl (fun c39 => ?_) (fun c39 => ?_)
    · rw [bi_0] at c39
      refine fv_iconst (v := (-1)) (q := 52) dX7_inFrame_51 (by decide) rfl ?_
      refine fv_iret dX7_inFrame_52 rfl rfl (Nat.le_refl _) ?_
      exact hPost _ _ _ ⟨by unfold f_inFrame; rw [if_neg (by rw [c5]; decide), hjc, rwI_w hlen c39], (hR1.tr hK2.kr).mr hX, (hR1.tr hK2.kr).kj⟩
    · rw [bi_n'] at c39
      obtain ⟨x, hx, hxe, hxc⟩ := okr_t c39 hlen
      subst hxe
      refine fv_aload_n (q := 43) dX7_inFrame_42 rfl rfl ?_
      refine fl_getR (q := 46) dX7_inFrame_43 fX7_50 sh124 rfl rfl ?_
      refine fv_iload_n (q := 47) dX7_inFrame_46 rfl rfl ?_
      refine fl_iald (q := 48) x dX7_inFrame_47 sh138 (by decide) rfl (by omega) rfl ?_
      refine fv_top (y := nI ((frL T n j n).getD x 0)) (holN_get hS.2 hx 0) ?_
      refine fv_goto 52 dX7_inFrame_48 (by decide) ?_
      refine fv_iret dX7_inFrame_52 rfl rfl (Nat.le_refl _) ?_
      exact hPost _ _ _ ⟨by unfold f_inFrame; rw [if_neg (by rw [c5]; decide), hjc, rwI_j hlen hx], (hR1.tr hK2.kr).mr hX, (hR1.tr hK2.kr).kj⟩
  · rw [bi_0] at c5
    refine fv_ldc (q := 10) dX7_inFrame_8 kX7_165 rfl ?_
    refine fv_iret dX7_inFrame_10 rfl rfl (Nat.le_refl _) ?_
    exact hPost _ _ _ ⟨by unfold f_inFrame; rw [if_pos c5], hX, KM.rf⟩
def hS (m k h : Nat) : Nat := h * (m / k) + min h (m % k)
theorem hS_mono {m k h g : Nat} (h1 : h ≤ g) : hS m k h ≤ hS m k g := by
  unfold hS
  have := Nat.mul_le_mul_right (m / k) h1
  omega
theorem hS_k {m k : Nat} (hk : 0 < k) : hS m k k = m := by
  unfold hS
  have := Nat.div_add_mod m k
  have := Nat.mod_lt m hk
  rw [Nat.min_eq_right (by omega)]
  omega
theorem hS_s (m k h : Nat) : hS m k (h + 1) = hS m k h + (m / k + (if h < m % k then 1 else 0)) := by
  unfold hS
  rw [Nat.succ_mul]
  split <;> omega
theorem hpv_b {p m k : Nat} (hk : 0 < k) (hp : p < m) : hS m k (hpv p m k) ≤ p ∧ p < hS m k (hpv p m k + 1) := by
  unfold hpv
  have h0 := Nat.div_add_mod m k
  have h1 := Nat.mod_lt m hk
  by_cases a : p < m % k * (m / k + 1)
  · rw [if_pos (Or.inl a)]
    have h2 := Nat.div_add_mod p (m / k + 1)
    have h3 := Nat.mod_lt p (show 0 < m / k + 1 from Nat.succ_pos _)
    have h4 : p / (m / k + 1) < m % k := (Nat.div_lt_iff_lt_mul (Nat.succ_pos (m / k))).mpr a
    generalize p / (m / k + 1) = x at *
    unfold hS
    have e1 : x * (m / k) + x = (m / k + 1) * x := by rw [Nat.add_mul, Nat.mul_comm, Nat.one_mul]
    have e2 : (x + 1) * (m / k) = x * (m / k) + m / k := Nat.succ_mul _ _
    rw [Nat.min_eq_left (by omega), Nat.min_eq_left (by omega)]
    omega
  · by_cases b : m / k < 1
    · exfalso
      have e : m / k = 0 := Nat.lt_one_iff.mp b
      rw [e] at h0 a
      omega
    · rw [if_neg (by omega)]
      have h2 := Nat.div_add_mod (p - m % k * (m / k + 1)) (m / k)
      have h3 := Nat.mod_lt (p - m % k * (m / k + 1)) (show 0 < m / k by omega)
      generalize (p - m % k * (m / k + 1)) / (m / k) = x at *
      unfold hS
      have e1 : (m % k + x) * (m / k) = m % k * (m / k) + m / k * x := by rw [Nat.add_mul, Nat.mul_comm x]
      have e2 : (m % k + x + 1) * (m / k) = (m % k + x) * (m / k) + m / k := Nat.succ_mul _ _
      have e3 : m % k * (m / k + 1) = m % k * (m / k) + m % k := Nat.mul_succ _ _
      rw [Nat.min_eq_right (by omega), Nat.min_eq_right (by omega)]
      omega
theorem hpv_eq {p m k h : Nat} (hk : 0 < k) (hp : p < m) (h1 : hS m k h ≤ p) (h2 : p < hS m k (h + 1)) : h = hpv p m k := by
  obtain ⟨g1, g2⟩ := hpv_b hk hp
  rcases Nat.lt_trichotomy h (hpv p m k) with q | q | q
  · have := hS_mono (m := m) (k := k) (show h + 1 ≤ hpv p m k from q); omega
  · exact q
  · have := hS_mono (m := m) (k := k) (show hpv p m k + 1 ≤ h from q); omega
set_option maxHeartbeats 4000000 in
set_option maxRecDepth 100000 in
theorem m_heap (D : Nat → Nat → Int32) (J : Nat → Nat → Int64) (σ : Sg) (hX : MR D σ) (ok : SgOk σ) (r k : Int32) : FD yX7_heap cX7_heap 5 (some .int) 3 [.ref 124, .int r, .int k] D J (fun res D' J' => res = some (.int (f_heap σ r k)) ∧ MR D' σ ∧ KM D D' J J') := by
  refine FD.of (by decide) rfl (Nat.le_of_ble_eq_true rfl) (fun Post hPost => ?_)
  show FV _ _ _ _ _ _ _ _ _ _ _ _ [_, _, _, _, _] [] _
  obtain ⟨T, n, P, I, B, s⟩ := σ
  have hM : MT D 125 T := hX.1
  have hP : PastM D P := hX.2.1
  have hI : ImgM D I := hX.2.2.1
  have hB : BookM D B := hX.2.2.2.1
  have hs : D 124 6 = s := hX.2.2.2.2
  have v : VT T n := ok.1
  have h40 := v.2.1
  refine fv_aload_n (q := 1) dX7_heap_0 rfl rfl ?_
  refine fv_iload_n (q := 2) dX7_heap_1 rfl rfl ?_
  refine fl_callVi (As := [_]) (q := 5) dX7_heap_2 gX7_131 rfl sh124 rfl rfl (Nat.le_of_ble_eq_true rfl) rfl (by decide) (m_isRow D J T n hM v r) ?_
  refine fv_if_ne (q := 8) 11 dX7_heap_5 (by decide) rfl (fun c5 => ?_) (fun c5 => ?_)
  · rw [bi_n'] at c5
    obtain ⟨j, hj, hrj, hjc⟩ := okr_t c5 h40
    subst hrj
    refine fv_iload_n (q := 12) dX7_heap_11 rfl rfl ?_
    refine fv_iconst (v := 1) (q := 13) dX7_heap_12 (by decide) rfl ?_
    refine fv_bipush (v := 20) (q := 15) dX7_heap_13 (by decide) rfl ?_
    refine fl_callSi (As := [_, _, _]) (q := 18) dX7_heap_15 gX7_120 rfl rfl (Nat.le_of_ble_eq_true rfl) rfl (by decide) (m_in D J k 1 20) ?_
    refine fv_if_ne (q := 21) 24 dX7_heap_18 (by decide) rfl (fun c18 => ?_) (fun c18 => ?_)
    · rw [bi_n'] at c18
      obtain ⟨x, hx1, hx2, hkm, hkc⟩ := wth_n (a := 1) (b := 20) c18 (by decide) (by decide)
      subst hkm
      refine fv_aload_n (q := 25) dX7_heap_24 rfl rfl ?_
      refine fv_aload_n (q := 26) dX7_heap_25 rfl rfl ?_
      refine fl_getR (q := 29) dX7_heap_26 fX7_7 sh124 rfl rfl ?_
      refine fl_callV (As := [_]) (q := 32) dX7_heap_29 gX7_139 rfl sh124 rfl rfl (Nat.le_of_ble_eq_true rfl) rfl (by decide) (m_stands 125 sh125 D _ T hM n v (by decide)) (fun res D1 J1 hp => ?_)
      obtain ⟨rfl, rfl, hL, hf1⟩ := hp
      have hR1 := KR.st hf1
      have hM1 := hR1.mt hM
      refine fv_aload_n (q := 33) dX7_heap_32 rfl rfl ?_
      refine fl_getR (q := 36) dX7_heap_33 fX7_32 sh124 rfl rfl ?_
      refine fv_iload_n (q := 37) dX7_heap_36 rfl rfl ?_
      refine fl_iald (q := 38) _ dX7_heap_37 sh132 (by decide) rfl (by omega) rfl ?_
      refine fv_top (y := nI (pos T n j)) (hL.2.1 j hj) ?_
      refine fv_aload_n (q := 39) dX7_heap_38 rfl rfl ?_
      refine fl_getR (q := 42) dX7_heap_39 fX7_35 sh124 rfl rfl ?_
      refine fv_iload_n (q := 43) dX7_heap_42 rfl rfl ?_
      refine fl_iald (q := 44) _ dX7_heap_43 sh133 (by decide) rfl (by omega) rfl ?_
      refine fv_top (y := nI (pf T n j)) (hL.2.2.1 j hj) ?_
      have hpp := pos_part (T := T) hj
      refine fv_isub (q := 45) dX7_heap_44 rfl ?_
      refine fv_top (pk_sub hpp.1) ?_
      refine fv_istore_n (i := 3) (q := 46) (l' := [_, _, _, _, _]) dX7_heap_45 rfl (by decide) rfl rfl rfl ?_
      refine fv_iconst (v := 0) (q := 47) dX7_heap_46 (by decide) rfl ?_
      refine fv_istore (q := 49) (l' := [_, _, _, _, _]) dX7_heap_47 (by decide) rfl rfl rfl ?_
      have hpp := pos_part (T := T) hj
      have hpl := part_le (T := T) (n := n) (r := j)
      have hdl := Nat.div_le_self (pm T n j) x
      have hml := Nat.mod_lt (pm T n j) hx1
      have loop : ∀ h, h ≤ x → hS (pm T n j) x h ≤ pos T n j - pf T n j → FV cX7_heap 5 (some .int) yX7_heap.cls yX7_heap.name 3 0 0 Post 0 0 49 [some (.ref 124), some (.int (nI j)), some (.int (nI x)), some (.int (nI (pos T n j - pf T n j - hS (pm T n j) x h))), some (.int (nI h))] [] (lay D1 J1) := by
        refine up_ind (fun h hhx ih => ?_)
        intro hh
        have hs9 := hS_s (pm T n j) x h
        have hk9 := hS_k (m := pm T n j) hx1
        have hne : h ≠ x := fun z => by rw [z] at hh; omega
        refine fv_iload_n (q := 50) dX7_heap_49 rfl rfl ?_
        refine fv_aload_n (q := 51) dX7_heap_50 rfl rfl ?_
        refine fl_getR (q := 54) dX7_heap_51 fX7_38 sh124 rfl rfl ?_
        refine fv_iload_n (q := 55) dX7_heap_54 rfl rfl ?_
        refine fl_iald (q := 56) _ dX7_heap_55 sh134 (by decide) rfl (by omega) rfl ?_
        refine fv_top (y := nI (pm T n j)) (hL.2.2.2.1 j hj) ?_
        refine fv_iload_n (q := 57) dX7_heap_56 rfl rfl ?_
        refine fv_idiv (q := 58) dX7_heap_57 (nI_ne0 hx1 (by omega)) rfl ?_
        refine fv_top (pk_div (by omega) hx1 (by omega)) ?_
        refine fv_iload (q := 60) dX7_heap_58 rfl rfl ?_
        refine fv_aload_n (q := 61) dX7_heap_60 rfl rfl ?_
        refine fl_getR (q := 64) dX7_heap_61 fX7_38 sh124 rfl rfl ?_
        refine fv_iload_n (q := 65) dX7_heap_64 rfl rfl ?_
        refine fl_iald (q := 66) _ dX7_heap_65 sh134 (by decide) rfl (by omega) rfl ?_
        refine fv_top (y := nI (pm T n j)) (hL.2.2.2.1 j hj) ?_
        refine fv_iload_n (q := 67) dX7_heap_66 rfl rfl ?_
        refine fv_irem (q := 68) dX7_heap_67 (nI_ne0 hx1 (by omega)) rfl ?_
        refine fv_top (y := nI (pm T n j % x)) (pk_rem (by omega) hx1 (by omega)) ?_
        refine fv_icmp_ge (q := 71) 75 dX7_heap_68 (by decide) rfl (fun c68 => ?_) (fun c68 => ?_)
        · rw [nI_leI (by omega) (by omega)] at c68
          refine fv_iconst (v := 0) (q := 76) dX7_heap_75 (by decide) rfl ?_
          refine fv_iadd (q := 77) dX7_heap_76 rfl ?_
          refine fv_top (y := nI (pm T n j / x + (if h < pm T n j % x then 1 else 0))) (by rw [if_neg (by omega), show (0 : Int32) = nI 0 from rfl, nI_add]) ?_
          refine fv_icmp_lt (q := 80) 116 dX7_heap_77 (by decide) rfl (fun c77 => ?_) (fun c77 => ?_)
          · rw [nI_ltI (by omega) (by split <;> omega)] at c77
            refine fv_iload (q := 118) dX7_heap_116 rfl rfl ?_
            refine fv_iret dX7_heap_118 rfl rfl (Nat.le_refl _) ?_
            exact hPost _ _ _ ⟨by unfold f_heap; rw [if_neg (by rw [c5]; decide), if_neg (by rw [c18]; decide), hjc, hkc, ← hpv_eq hx1 (by omega) hh (by omega)], hR1.mr hX, hR1.kj⟩
          · rw [nI_ltI (by omega) (by split <;> omega)] at c77
            refine fv_iload_n (q := 81) dX7_heap_80 rfl rfl ?_
            refine fv_aload_n (q := 82) dX7_heap_81 rfl rfl ?_
            refine fl_getR (q := 85) dX7_heap_82 fX7_38 sh124 rfl rfl ?_
            refine fv_iload_n (q := 86) dX7_heap_85 rfl rfl ?_
            refine fl_iald (q := 87) _ dX7_heap_86 sh134 (by decide) rfl (by omega) rfl ?_
            refine fv_top (y := nI (pm T n j)) (hL.2.2.2.1 j hj) ?_
            refine fv_iload_n (q := 88) dX7_heap_87 rfl rfl ?_
            refine fv_idiv (q := 89) dX7_heap_88 (nI_ne0 hx1 (by omega)) rfl ?_
            refine fv_top (pk_div (by omega) hx1 (by omega)) ?_
            refine fv_iload (q := 91) dX7_heap_89 rfl rfl ?_
            refine fv_aload_n (q := 92) dX7_heap_91 rfl rfl ?_
            refine fl_getR (q := 95) dX7_heap_92 fX7_38 sh124 rfl rfl ?_
            refine fv_iload_n (q := 96) dX7_heap_95 rfl rfl ?_
            refine fl_iald (q := 97) _ dX7_heap_96 sh134 (by decide) rfl (by omega) rfl ?_
            refine fv_top (y := nI (pm T n j)) (hL.2.2.2.1 j hj) ?_
            refine fv_iload_n (q := 98) dX7_heap_97 rfl rfl ?_
            refine fv_irem (q := 99) dX7_heap_98 (nI_ne0 hx1 (by omega)) rfl ?_
            refine fv_top (y := nI (pm T n j % x)) (pk_rem (by omega) hx1 (by omega)) ?_
            refine fv_icmp_ge (q := 102) 106 dX7_heap_99 (by decide) rfl (fun c99 => ?_) (fun c99 => ?_)
            · rw [nI_leI (by omega) (by omega)] at c99
              refine fv_iconst (v := 0) (q := 107) dX7_heap_106 (by decide) rfl ?_
              refine fv_iadd (q := 108) dX7_heap_107 rfl ?_
              refine fv_top (y := nI (pm T n j / x + (if h < pm T n j % x then 1 else 0))) (by rw [if_neg (by omega), show (0 : Int32) = nI 0 from rfl, nI_add]) ?_
              refine fv_isub (q := 109) dX7_heap_108 rfl ?_
              refine fv_top (pk_sub (by omega)) ?_
              refine fv_istore_n (i := 3) (q := 110) (l' := [_, _, _, _, _]) dX7_heap_109 rfl (by decide) rfl rfl rfl ?_
              refine fv_iinc (v := _ + 1) (q := 113) (l' := [_, _, _, _, _]) dX7_heap_110 rfl rfl (by decide) rfl rfl rfl ?_
              refine fv_goto 49 dX7_heap_113 (by decide) ?_
              rw [nI_1, Nat.sub_sub, ← hs9]
              exact ih (by omega) (by omega)
            · rw [nI_leI (by omega) (by omega)] at c99
              refine fv_iconst (v := 1) (q := 103) dX7_heap_102 (by decide) rfl ?_
              refine fv_goto 107 dX7_heap_103 (by decide) ?_
              refine fv_iadd (q := 108) dX7_heap_107 rfl ?_
              refine fv_top (y := nI (pm T n j / x + (if h < pm T n j % x then 1 else 0))) (by rw [if_pos (by omega)]; exact nI_1 _) ?_
              refine fv_isub (q := 109) dX7_heap_108 rfl ?_
              refine fv_top (pk_sub (by omega)) ?_
              refine fv_istore_n (i := 3) (q := 110) (l' := [_, _, _, _, _]) dX7_heap_109 rfl (by decide) rfl rfl rfl ?_
              refine fv_iinc (v := _ + 1) (q := 113) (l' := [_, _, _, _, _]) dX7_heap_110 rfl rfl (by decide) rfl rfl rfl ?_
              refine fv_goto 49 dX7_heap_113 (by decide) ?_
              rw [nI_1, Nat.sub_sub, ← hs9]
              exact ih (by omega) (by omega)
        · rw [nI_leI (by omega) (by omega)] at c68
          refine fv_iconst (v := 1) (q := 72) dX7_heap_71 (by decide) rfl ?_
          refine fv_goto 76 dX7_heap_72 (by decide) ?_
          refine fv_iadd (q := 77) dX7_heap_76 rfl ?_
          refine fv_top (y := nI (pm T n j / x + (if h < pm T n j % x then 1 else 0))) (by rw [if_pos (by omega)]; exact nI_1 _) ?_
          refine fv_icmp_lt (q := 80) 116 dX7_heap_77 (by decide) rfl (fun c77 => ?_) (fun c77 => ?_)
          · rw [nI_ltI (by omega) (by split <;> omega)] at c77
            refine fv_iload (q := 118) dX7_heap_116 rfl rfl ?_
            refine fv_iret dX7_heap_118 rfl rfl (Nat.le_refl _) ?_
            exact hPost _ _ _ ⟨by unfold f_heap; rw [if_neg (by rw [c5]; decide), if_neg (by rw [c18]; decide), hjc, hkc, ← hpv_eq hx1 (by omega) hh (by omega)], hR1.mr hX, hR1.kj⟩
          · rw [nI_ltI (by omega) (by split <;> omega)] at c77
            refine fv_iload_n (q := 81) dX7_heap_80 rfl rfl ?_
            refine fv_aload_n (q := 82) dX7_heap_81 rfl rfl ?_
            refine fl_getR (q := 85) dX7_heap_82 fX7_38 sh124 rfl rfl ?_
            refine fv_iload_n (q := 86) dX7_heap_85 rfl rfl ?_
            refine fl_iald (q := 87) _ dX7_heap_86 sh134 (by decide) rfl (by omega) rfl ?_
            refine fv_top (y := nI (pm T n j)) (hL.2.2.2.1 j hj) ?_
            refine fv_iload_n (q := 88) dX7_heap_87 rfl rfl ?_
            refine fv_idiv (q := 89) dX7_heap_88 (nI_ne0 hx1 (by omega)) rfl ?_
            refine fv_top (pk_div (by omega) hx1 (by omega)) ?_
            refine fv_iload (q := 91) dX7_heap_89 rfl rfl ?_
            refine fv_aload_n (q := 92) dX7_heap_91 rfl rfl ?_
            refine fl_getR (q := 95) dX7_heap_92 fX7_38 sh124 rfl rfl ?_
            refine fv_iload_n (q := 96) dX7_heap_95 rfl rfl ?_
            refine fl_iald (q := 97) _ dX7_heap_96 sh134 (by decide) rfl (by omega) rfl ?_
            refine fv_top (y := nI (pm T n j)) (hL.2.2.2.1 j hj) ?_
            refine fv_iload_n (q := 98) dX7_heap_97 rfl rfl ?_
            refine fv_irem (q := 99) dX7_heap_98 (nI_ne0 hx1 (by omega)) rfl ?_
            refine fv_top (y := nI (pm T n j % x)) (pk_rem (by omega) hx1 (by omega)) ?_
            refine fv_icmp_ge (q := 102) 106 dX7_heap_99 (by decide) rfl (fun c99 => ?_) (fun c99 => ?_)
            · rw [nI_leI (by omega) (by omega)] at c99
              refine fv_iconst (v := 0) (q := 107) dX7_heap_106 (by decide) rfl ?_
              refine fv_iadd (q := 108) dX7_heap_107 rfl ?_
              refine fv_top (y := nI (pm T n j / x + (if h < pm T n j % x then 1 else 0))) (by rw [if_neg (by omega), show (0 : Int32) = nI 0 from rfl, nI_add]) ?_
              refine fv_isub (q := 109) dX7_heap_108 rfl ?_
              refine fv_top (pk_sub (by omega)) ?_
              refine fv_istore_n (i := 3) (q := 110) (l' := [_, _, _, _, _]) dX7_heap_109 rfl (by decide) rfl rfl rfl ?_
              refine fv_iinc (v := _ + 1) (q := 113) (l' := [_, _, _, _, _]) dX7_heap_110 rfl rfl (by decide) rfl rfl rfl ?_
              refine fv_goto 49 dX7_heap_113 (by decide) ?_
              rw [nI_1, Nat.sub_sub, ← hs9]
              exact ih (by omega) (by omega)
            · rw [nI_leI (by omega) (by omega)] at c99
              refine fv_iconst (v := 1) (q := 103) dX7_heap_102 (by decide) rfl ?_
              refine fv_goto 107 dX7_heap_103 (by decide) ?_
              refine fv_iadd (q := 108) dX7_heap_107 rfl ?_
              refine fv_top (y := nI (pm T n j / x + (if h < pm T n j % x then 1 else 0))) (by rw [if_pos (by omega)]; exact nI_1 _) ?_
              refine fv_isub (q := 109) dX7_heap_108 rfl ?_
              refine fv_top (pk_sub (by omega)) ?_
              refine fv_istore_n (i := 3) (q := 110) (l' := [_, _, _, _, _]) dX7_heap_109 rfl (by decide) rfl rfl rfl ?_
              refine fv_iinc (v := _ + 1) (q := 113) (l' := [_, _, _, _, _]) dX7_heap_110 rfl rfl (by decide) rfl rfl rfl ?_
              refine fv_goto 49 dX7_heap_113 (by decide) ?_
              rw [nI_1, Nat.sub_sub, ← hs9]
              exact ih (by omega) (by omega)
      have h0 := loop 0 (Nat.zero_le _) (by unfold hS; rw [Nat.zero_mul]; omega)
      have e0 : hS (pm T n j) x 0 = 0 := by unfold hS; rw [Nat.zero_mul, Nat.zero_min]
      rw [e0, Nat.sub_zero] at h0
      exact h0
    · rw [bi_0] at c18
      refine fv_ldc (q := 23) dX7_heap_21 kX7_157 rfl ?_
      refine fv_iret dX7_heap_23 rfl rfl (Nat.le_refl _) ?_
      exact hPost _ _ _ ⟨by unfold f_heap; rw [if_neg (by rw [c5]; decide), if_pos c18], hX, KM.rf⟩
  · rw [bi_0] at c5
    refine fv_ldc (q := 10) dX7_heap_8 kX7_165 rfl ?_
    refine fv_iret dX7_heap_10 rfl rfl (Nat.le_refl _) ?_
    exact hPost _ _ _ ⟨by unfold f_heap; rw [if_pos c5], hX, KM.rf⟩
set_option maxHeartbeats 4000000 in
set_option maxRecDepth 100000 in
theorem m_shift (D : Nat → Nat → Int32) (J : Nat → Nat → Int64) (σ : Sg) (hX : MR D σ) (ok : SgOk σ) (r d : Int32) : FD yX7_shift cX7_shift 4 (some .int) 3 [.ref 124, .int r, .int d] D J (fun res D' J' => res = some (.int (f_shift σ r d)) ∧ MR D' σ ∧ KM D D' J J') := by
  refine FD.of (by decide) rfl (Nat.le_of_ble_eq_true rfl) (fun Post hPost => ?_)
  show FV _ _ _ _ _ _ _ _ _ _ _ _ [_, _, _, _] [] _
  obtain ⟨T, n, P, I, B, s⟩ := σ
  have hM : MT D 125 T := hX.1
  have hP : PastM D P := hX.2.1
  have hI : ImgM D I := hX.2.2.1
  have hB : BookM D B := hX.2.2.2.1
  have hs : D 124 6 = s := hX.2.2.2.2
  have v : VT T n := ok.1
  have h40 := v.2.1
  refine fv_aload_n (q := 1) dX7_shift_0 rfl rfl ?_
  refine fv_iload_n (q := 2) dX7_shift_1 rfl rfl ?_
  refine fl_callVi (As := [_]) (q := 5) dX7_shift_2 gX7_131 rfl sh124 rfl rfl (Nat.le_of_ble_eq_true rfl) rfl (by decide) (m_isRow D J T n hM v r) ?_
  refine fv_if_ne (q := 8) 11 dX7_shift_5 (by decide) rfl (fun c5 => ?_) (fun c5 => ?_)
  · rw [bi_n'] at c5
    obtain ⟨j, hj, hrj, hjc⟩ := okr_t c5 h40
    subst hrj
    refine fv_iload_n (q := 12) dX7_shift_11 rfl rfl ?_
    refine fv_bipush (v := (-20)) (q := 14) dX7_shift_12 (by decide) rfl ?_
    refine fv_bipush (v := 20) (q := 16) dX7_shift_14 (by decide) rfl ?_
    refine fl_callSi (As := [_, _, _]) (q := 19) dX7_shift_16 gX7_120 rfl rfl (Nat.le_of_ble_eq_true rfl) rfl (by decide) (m_in D J d (-20) 20) ?_
    refine fv_if_ne (q := 22) 25 dX7_shift_19 (by decide) rfl (fun c19 => ?_) (fun c19 => ?_)
    · rw [bi_n'] at c19
      have hd : -20 ≤ d.toInt ∧ d.toInt ≤ 20 := wth_i.mp c19
      refine fv_aload_n (q := 26) dX7_shift_25 rfl rfl ?_
      refine fv_aload_n (q := 27) dX7_shift_26 rfl rfl ?_
      refine fl_getR (q := 30) dX7_shift_27 fX7_7 sh124 rfl rfl ?_
      refine fl_callV (As := [_]) (q := 33) dX7_shift_30 gX7_139 rfl sh124 rfl rfl (Nat.le_of_ble_eq_true rfl) rfl (by decide) (m_stands 125 sh125 D _ T hM n v (by decide)) (fun res D1 J1 hp => ?_)
      obtain ⟨rfl, rfl, hL, hf1⟩ := hp
      have hR1 := KR.st hf1
      have hM1 := hR1.mt hM
      refine fv_aload_n (q := 34) dX7_shift_33 rfl rfl ?_
      refine fl_getR (q := 37) dX7_shift_34 fX7_32 sh124 rfl rfl ?_
      refine fv_iload_n (q := 38) dX7_shift_37 rfl rfl ?_
      refine fl_iald (q := 39) _ dX7_shift_38 sh132 (by decide) rfl (by omega) rfl ?_
      refine fv_top (y := nI (pos T n j)) (hL.2.1 j hj) ?_
      refine fv_iload_n (q := 40) dX7_shift_39 rfl rfl ?_
      refine fv_iadd (q := 41) dX7_shift_40 rfl ?_
      refine fv_istore_n (i := 3) (q := 42) (l' := [_, _, _, _]) dX7_shift_41 rfl (by decide) rfl rfl rfl ?_
      refine fv_iload_n (q := 43) dX7_shift_42 rfl rfl ?_
      refine fv_aload_n (q := 44) dX7_shift_43 rfl rfl ?_
      refine fl_getR (q := 47) dX7_shift_44 fX7_35 sh124 rfl rfl ?_
      refine fv_iload_n (q := 48) dX7_shift_47 rfl rfl ?_
      refine fl_iald (q := 49) _ dX7_shift_48 sh133 (by decide) rfl (by omega) rfl ?_
      refine fv_top (y := nI (pf T n j)) (hL.2.2.1 j hj) ?_
      refine fv_aload_n (q := 50) dX7_shift_49 rfl rfl ?_
      refine fl_getR (q := 53) dX7_shift_50 fX7_35 sh124 rfl rfl ?_
      refine fv_iload_n (q := 54) dX7_shift_53 rfl rfl ?_
      refine fl_iald (q := 55) _ dX7_shift_54 sh133 (by decide) rfl (by omega) rfl ?_
      refine fv_top (y := nI (pf T n j)) (hL.2.2.1 j hj) ?_
      refine fv_aload_n (q := 56) dX7_shift_55 rfl rfl ?_
      refine fl_getR (q := 59) dX7_shift_56 fX7_38 sh124 rfl rfl ?_
      refine fv_iload_n (q := 60) dX7_shift_59 rfl rfl ?_
      refine fl_iald (q := 61) _ dX7_shift_60 sh134 (by decide) rfl (by omega) rfl ?_
      refine fv_top (y := nI (pm T n j)) (hL.2.2.2.1 j hj) ?_
      refine fv_iadd (q := 62) dX7_shift_61 rfl ?_
      refine fv_top (nI_add _ _) ?_
      have hpp := pos_part (T := T) hj
      have hpl := part_le (T := T) (n := n) (r := j)
      refine fv_iconst (v := 1) (q := 63) dX7_shift_62 (by decide) rfl ?_
      refine fv_isub (q := 64) dX7_shift_63 rfl ?_
      refine fv_top (nI_mm (by omega)) ?_
      refine fl_callSi (As := [_, _, _]) (q := 67) dX7_shift_64 gX7_120 rfl rfl (Nat.le_of_ble_eq_true rfl) rfl (by decide) (m_in D1 J1 _ _ _) ?_
      have hadd := sh_add (p := pos T n j) (d := d) (by omega) hd
      have hw : wth (nI (pos T n j) + d) (nI (pf T n j)) (nI (pf T n j + pm T n j - 1)) = true ↔ (pf T n j : Int) ≤ (pos T n j : Int) + d.toInt ∧ (pos T n j : Int) + d.toInt < (pf T n j : Int) + (pm T n j : Int) := by
        rw [wth_i, hadd, nI_toInt (by omega), nI_toInt (by omega)]; omega
      refine fv_if_eq (q := 70) 79 dX7_shift_67 (by decide) rfl (fun c67 => ?_) (fun c67 => ?_)
      · rw [bi_0] at c67
        refine fv_iconst (v := (-1)) (q := 80) dX7_shift_79 (by decide) rfl ?_
        refine fv_iret dX7_shift_80 rfl rfl (Nat.le_refl _) ?_
        refine hPost _ _ _ ⟨?_, hR1.mr hX, hR1.kj⟩
        unfold f_shift; rw [if_neg (by rw [c5]; decide), if_neg (by rw [c19]; decide), hjc]
        unfold shv; rw [if_neg (fun z => by have := hw.mpr z; rw [c67] at this; cases this)]
      · rw [bi_n', hw] at c67
        have hex : nI (pos T n j) + d = nI ((pos T n j : Int) + d.toInt).toNat := by rw [fi_ofI (x := nI (pos T n j) + d) (by omega), hadd]
        refine fv_aload_n (q := 71) dX7_shift_70 rfl rfl ?_
        refine fl_getR (q := 74) dX7_shift_71 fX7_29 sh124 rfl rfl ?_
        refine fv_iload_n (q := 75) dX7_shift_74 rfl rfl ?_
        refine fl_iald (q := 76) ((pos T n j : Int) + d.toInt).toNat dX7_shift_75 sh131 (by decide) hex (by omega) rfl ?_
        refine fv_top (hL.1 _ (by omega)) ?_
        refine fv_goto 80 dX7_shift_76 (by decide) ?_
        refine fv_iret dX7_shift_80 rfl rfl (Nat.le_refl _) ?_
        refine hPost _ _ _ ⟨?_, hR1.mr hX, hR1.kj⟩
        unfold f_shift; rw [if_neg (by rw [c5]; decide), if_neg (by rw [c19]; decide), hjc]
        unfold shv; rw [if_pos c67]
    · rw [bi_0] at c19
      refine fv_ldc (q := 24) dX7_shift_22 kX7_157 rfl ?_
      refine fv_iret dX7_shift_24 rfl rfl (Nat.le_refl _) ?_
      exact hPost _ _ _ ⟨by unfold f_shift; rw [if_neg (by rw [c5]; decide), if_pos c19], hX, KM.rf⟩
  · rw [bi_0] at c5
    refine fv_ldc (q := 10) dX7_shift_8 kX7_165 rfl ?_
    refine fv_iret dX7_shift_10 rfl rfl (Nat.le_refl _) ?_
    exact hPost _ _ _ ⟨by unfold f_shift; rw [if_pos c5], hX, KM.rf⟩
theorem wgt_b {T : Nat → Int32} {n r : Nat} (v : VT T n) (w : Int32) : -1000000 ≤ (wgt (ans T n r w)).toInt := by
  have h := ans_b (r := r) v w
  unfold wgt
  split
  · decide
  · omega
theorem bst_p {T : Nat → Int32} {n : Nat} (v : VT T n) (w : Int32) : ∀ m, 0 < m → ∃ j, j < m ∧ (bst T n w m).1 = nI j
  | 0, h => absurd h (Nat.lt_irrefl _)
  | m + 1, _ => by
    rw [bst]
    by_cases c : (bst T n w m).2 < wgt (ans T n m w)
    · rw [if_pos c]; exact ⟨m, by omega, rfl⟩
    · rw [if_neg c]
      rcases Nat.eq_zero_or_pos m with q | q
      · subst q
        exact absurd (by
          rw [fa_lt]
          have := wgt_b (r := 0) v w
          have e : ((bst T n w 0).2).toInt = -2000000 := by show (-2000000 : Int32).toInt = _; decide
          omega) c
      · obtain ⟨j, hj, e⟩ := bst_p v w m q
        exact ⟨j, by omega, e⟩
theorem bst_u {T : Nat → Int32} {n m : Nat} {w : Int32} (h : (bst T n w m).2 < wgt (ans T n m w)) : bst T n w (m + 1) = (nI m, wgt (ans T n m w)) := by rw [bst, if_pos h]
theorem bst_k {T : Nat → Int32} {n m : Nat} {w : Int32} (h : ¬ (bst T n w m).2 < wgt (ans T n m w)) : bst T n w (m + 1) = bst T n w m := by rw [bst, if_neg h]
theorem bst_z {T : Nat → Int32} {n m : Nat} {w : Int32} (v : VT T n) (hm : m < 2 ^ 31) (h : (bst T n w m).1 = -1) : (bst T n w m).2 < wgt (ans T n m w) := by
  rcases Nat.eq_zero_or_pos m with q | q
  · subst q
    rw [fa_lt]
    have := wgt_b (r := 0) v w
    have e : ((bst T n w 0).2).toInt = -2000000 := by show (-2000000 : Int32).toInt = _; decide
    omega
  · obtain ⟨j, hj, e⟩ := bst_p v w m q
    rw [e] at h
    exact absurd h (nI_m1 (by omega))
set_option maxHeartbeats 4000000 in
set_option maxRecDepth 100000 in
theorem m_best (D : Nat → Nat → Int32) (J : Nat → Nat → Int64) (σ : Sg) (hX : MR D σ) (ok : SgOk σ) (w : Int32) : FD yX7_best cX7_best 6 (some .int) 5 [.ref 124, .int w] D J (fun res D' J' => res = some (.int (f_best σ w)) ∧ MR D' σ ∧ KM D D' J J') := by
  refine FD.of (by decide) rfl (Nat.le_of_ble_eq_true rfl) (fun Post hPost => ?_)
  show FV _ _ _ _ _ _ _ _ _ _ _ _ [_, _, _, _, _, _] [] _
  obtain ⟨T, n, P, I, B, s⟩ := σ
  have hM : MT D 125 T := hX.1
  have hP : PastM D P := hX.2.1
  have hI : ImgM D I := hX.2.2.1
  have hB : BookM D B := hX.2.2.2.1
  have hs : D 124 6 = s := hX.2.2.2.2
  have v : VT T n := ok.1
  have h40 := v.2.1
  refine fv_iload_n (q := 1) dX7_best_0 rfl rfl ?_
  refine fv_iconst (v := 0) (q := 2) dX7_best_1 (by decide) rfl ?_
  refine fv_bipush (v := 8) (q := 4) dX7_best_2 (by decide) rfl ?_
  refine fl_callSi (As := [_, _, _]) (q := 7) dX7_best_4 gX7_120 rfl rfl (Nat.le_of_ble_eq_true rfl) rfl (by decide) (m_in D J w 0 8) ?_
  refine fv_if_ne (q := 10) 13 dX7_best_7 (by decide) rfl (fun c7 => ?_) (fun c7 => ?_)
  · rw [bi_n'] at c7
    refine fv_aload_n (q := 14) dX7_best_13 rfl rfl ?_
    refine fv_aload_n (q := 15) dX7_best_14 rfl rfl ?_
    refine fl_getR (q := 18) dX7_best_15 fX7_7 sh124 rfl rfl ?_
    refine fl_callV (As := [_]) (q := 21) dX7_best_18 gX7_139 rfl sh124 rfl rfl (Nat.le_of_ble_eq_true rfl) rfl (by decide) (m_stands 125 sh125 D _ T hM n v (by decide)) (fun res D1 J1 hp => ?_)
    obtain ⟨rfl, rfl, hL, hf1⟩ := hp
    have hR1 := KR.st hf1
    have hM1 := hR1.mt hM
    refine fv_iconst (v := (-1)) (q := 22) dX7_best_21 (by decide) rfl ?_
    refine fv_istore_n (i := 2) (q := 23) (l' := [_, _, _, _, _, _]) dX7_best_22 rfl (by decide) rfl rfl rfl ?_
    refine fv_iconst (v := 0) (q := 24) dX7_best_23 (by decide) rfl ?_
    refine fv_istore_n (i := 3) (q := 25) (l' := [_, _, _, _, _, _]) dX7_best_24 rfl (by decide) rfl rfl rfl ?_
    refine fv_iconst (v := 0) (q := 26) dX7_best_25 (by decide) rfl ?_
    refine fv_istore (q := 28) (l' := [_, _, _, _, _, _]) dX7_best_26 (by decide) rfl rfl rfl ?_
    have loop : ∀ i, i ≤ n → ∀ (mo : Int32) (l5 : Option Value) (E : Nat → Nat → Int32), KF D1 E → (0 < i → mo = (bst T n w i).2) → FV cX7_best 6 (some .int) yX7_best.cls yX7_best.name 5 0 0 Post 0 0 28 [some (.ref 124), some (.int w), some (.int (bst T n w i).1), some (.int mo), some (.int (nI i)), l5] [] (lay E J1) := by
      refine up_ind (fun i hi ih => ?_)
      intro mo l5 E hK hmo
      refine fv_iload (q := 30) dX7_best_28 rfl rfl ?_
      refine fv_aload_n (q := 31) dX7_best_30 rfl rfl ?_
      refine fl_getR (q := 34) dX7_best_31 fX7_7 sh124 rfl rfl ?_
      refine fv_iconst (v := 0) (q := 35) dX7_best_34 (by decide) rfl ?_
      refine fl_iald (q := 36) 0 dX7_best_35 sh125 (by decide) rfl (by decide) rfl ?_
      refine fv_top (y := nI n) (((hK.mt hM1 ⟨by decide, by decide⟩) 0 (by decide)).trans v.1) ?_
      refine fv_icmp_ge (q := 39) 105 dX7_best_36 (by decide) rfl (fun c36 => ?_) (fun c36 => ?_)
      · rw [nI_leI (by omega) (by omega)] at c36
        have hin : i = n := by omega
        subst hin
        refine fv_iload_n (q := 106) dX7_best_105 rfl rfl ?_
        refine fv_iret dX7_best_106 rfl rfl (Nat.le_refl _) ?_
        exact hPost _ _ _ ⟨by unfold f_best; rw [if_neg (by rw [c7]; decide)], (hR1.tr hK.kr).mr hX, (hR1.tr hK.kr).kj⟩
      · rw [nI_leI (by omega) (by omega)] at c36
        refine fv_aload_n (q := 40) dX7_best_39 rfl rfl ?_
        refine fv_aload_n (q := 41) dX7_best_40 rfl rfl ?_
        refine fl_getR (q := 44) dX7_best_41 fX7_7 sh124 rfl rfl ?_
        refine fv_iload (q := 46) dX7_best_44 rfl rfl ?_
        refine fv_iload_n (q := 47) dX7_best_46 rfl rfl ?_
        refine fl_callV (As := [_, _, _]) (q := 50) dX7_best_47 gX7_135 rfl sh124 rfl rfl (Nat.le_of_ble_eq_true rfl) rfl (by decide) (m_ofFrame 125 sh125 E J1 T (hK.mt hM1 ⟨by decide, by decide⟩) n v ⟨by decide, by decide⟩ (hK.la hL) i (by omega) w) (fun res D2 J2 hp => ?_)
        obtain ⟨rfl, rfl, hK2⟩ := hp
        refine fv_istore (q := 52) (l' := [_, _, _, _, _, _]) dX7_best_50 (by decide) rfl rfl rfl ?_
        refine fv_iload (q := 54) dX7_best_52 rfl rfl ?_
        refine fv_ldc (q := 56) dX7_best_54 kX7_66 rfl ?_
        refine fv_icmp_ne (q := 59) 64 dX7_best_56 (by decide) rfl (fun c56 => ?_) (fun c56 => ?_)
        · refine fv_iload (q := 66) dX7_best_64 rfl rfl ?_
          refine fv_top (y := wgt (ans T n i w)) (by unfold wgt; rw [if_neg c56]) ?_
          refine fv_istore (q := 68) (l' := [_, _, _, _, _, _]) dX7_best_66 (by decide) rfl rfl rfl ?_
          refine fv_iload_n (q := 69) dX7_best_68 rfl rfl ?_
          refine fv_iconst (v := (-1)) (q := 70) dX7_best_69 (by decide) rfl ?_
          refine fv_icmp_eq (q := 73) 79 dX7_best_70 (by decide) rfl (fun c70 => ?_) (fun c70 => ?_)
          · refine fv_iload (q := 81) dX7_best_79 rfl rfl ?_
            refine fv_goto 85 dX7_best_81 (by decide) ?_
            refine fv_istore_n (i := 2) (q := 86) (l' := [_, _, _, _, _, _]) dX7_best_85 rfl (by decide) rfl rfl rfl ?_
            refine fv_iload_n (q := 87) dX7_best_86 rfl rfl ?_
            refine fv_iload (q := 89) dX7_best_87 rfl rfl ?_
            refine fv_icmp_ne (q := 92) 97 dX7_best_89 (by decide) rfl (fun c89 => absurd rfl c89) (fun c89 => ?_)
            refine fv_iload (q := 94) dX7_best_92 rfl rfl ?_
            refine fv_goto 98 dX7_best_94 (by decide) ?_
            refine fv_istore_n (i := 3) (q := 99) (l' := [_, _, _, _, _, _]) dX7_best_98 rfl (by decide) rfl rfl rfl ?_
            refine fv_iinc (v := _ + 1) (q := 102) (l' := [_, _, _, _, _, _]) dX7_best_99 rfl rfl (by decide) rfl rfl rfl ?_
            refine fv_goto 28 dX7_best_102 (by decide) ?_
            have h9 := bst_u (bst_z v (by omega) c70)
            have h8 := ih (by omega) (wgt (ans T n i w)) (some (.int (wgt (ans T n i w)))) D2 (hK.tr hK2) (fun _ => by rw [h9])
            rw [h9] at h8
            rw [nI_1]
            exact h8
          · have hi0 : 0 < i := by rcases Nat.eq_zero_or_pos i with q | q; (subst q; exact absurd rfl c70); exact q
            refine fv_iload (q := 75) dX7_best_73 rfl rfl ?_
            refine fv_iload_n (q := 76) dX7_best_75 rfl rfl ?_
            refine fv_icmp_le (q := 79) 84 dX7_best_76 (by decide) rfl (fun c76 => ?_) (fun c76 => ?_)
            · refine fv_iload_n (q := 85) dX7_best_84 rfl rfl ?_
              refine fv_istore_n (i := 2) (q := 86) (l' := [_, _, _, _, _, _]) dX7_best_85 rfl (by decide) rfl rfl rfl ?_
              refine fv_iload_n (q := 87) dX7_best_86 rfl rfl ?_
              refine fv_iload (q := 89) dX7_best_87 rfl rfl ?_
              refine fv_icmp_ne (q := 92) 97 dX7_best_89 (by decide) rfl (fun c89 => ?_) (fun c89 => absurd c89 (by obtain ⟨j, hj, e⟩ := bst_p v w i hi0; rw [e, nI_eq (by omega) (by omega)]; omega))
              refine fv_iload_n (q := 98) dX7_best_97 rfl rfl ?_
              refine fv_istore_n (i := 3) (q := 99) (l' := [_, _, _, _, _, _]) dX7_best_98 rfl (by decide) rfl rfl rfl ?_
              refine fv_iinc (v := _ + 1) (q := 102) (l' := [_, _, _, _, _, _]) dX7_best_99 rfl rfl (by decide) rfl rfl rfl ?_
              refine fv_goto 28 dX7_best_102 (by decide) ?_
              have h9 := bst_k (T := T) (n := n) (w := w) (m := i) (by rw [← hmo hi0, fa_lt]; rw [fa_le] at c76; omega)
              have h8 := ih (by omega) mo (some (.int (wgt (ans T n i w)))) D2 (hK.tr hK2) (fun _ => by rw [h9]; exact hmo hi0)
              rw [h9] at h8
              rw [nI_1]
              exact h8
            · refine fv_iload (q := 81) dX7_best_79 rfl rfl ?_
              refine fv_goto 85 dX7_best_81 (by decide) ?_
              refine fv_istore_n (i := 2) (q := 86) (l' := [_, _, _, _, _, _]) dX7_best_85 rfl (by decide) rfl rfl rfl ?_
              refine fv_iload_n (q := 87) dX7_best_86 rfl rfl ?_
              refine fv_iload (q := 89) dX7_best_87 rfl rfl ?_
              refine fv_icmp_ne (q := 92) 97 dX7_best_89 (by decide) rfl (fun c89 => absurd rfl c89) (fun c89 => ?_)
              refine fv_iload (q := 94) dX7_best_92 rfl rfl ?_
              refine fv_goto 98 dX7_best_94 (by decide) ?_
              refine fv_istore_n (i := 3) (q := 99) (l' := [_, _, _, _, _, _]) dX7_best_98 rfl (by decide) rfl rfl rfl ?_
              refine fv_iinc (v := _ + 1) (q := 102) (l' := [_, _, _, _, _, _]) dX7_best_99 rfl rfl (by decide) rfl rfl rfl ?_
              refine fv_goto 28 dX7_best_102 (by decide) ?_
              have h9 := bst_u (by rw [← hmo hi0, fa_lt]; rw [fa_le] at c76; omega)
              have h8 := ih (by omega) (wgt (ans T n i w)) (some (.int (wgt (ans T n i w)))) D2 (hK.tr hK2) (fun _ => by rw [h9])
              rw [h9] at h8
              rw [nI_1]
              exact h8
        · refine fv_ldc (q := 61) dX7_best_59 kX7_67 rfl ?_
          refine fv_top (y := wgt (ans T n i w)) (by unfold wgt; rw [if_pos c56]) ?_
          refine fv_goto 66 dX7_best_61 (by decide) ?_
          refine fv_istore (q := 68) (l' := [_, _, _, _, _, _]) dX7_best_66 (by decide) rfl rfl rfl ?_
          refine fv_iload_n (q := 69) dX7_best_68 rfl rfl ?_
          refine fv_iconst (v := (-1)) (q := 70) dX7_best_69 (by decide) rfl ?_
          refine fv_icmp_eq (q := 73) 79 dX7_best_70 (by decide) rfl (fun c70 => ?_) (fun c70 => ?_)
          · refine fv_iload (q := 81) dX7_best_79 rfl rfl ?_
            refine fv_goto 85 dX7_best_81 (by decide) ?_
            refine fv_istore_n (i := 2) (q := 86) (l' := [_, _, _, _, _, _]) dX7_best_85 rfl (by decide) rfl rfl rfl ?_
            refine fv_iload_n (q := 87) dX7_best_86 rfl rfl ?_
            refine fv_iload (q := 89) dX7_best_87 rfl rfl ?_
            refine fv_icmp_ne (q := 92) 97 dX7_best_89 (by decide) rfl (fun c89 => absurd rfl c89) (fun c89 => ?_)
            refine fv_iload (q := 94) dX7_best_92 rfl rfl ?_
            refine fv_goto 98 dX7_best_94 (by decide) ?_
            refine fv_istore_n (i := 3) (q := 99) (l' := [_, _, _, _, _, _]) dX7_best_98 rfl (by decide) rfl rfl rfl ?_
            refine fv_iinc (v := _ + 1) (q := 102) (l' := [_, _, _, _, _, _]) dX7_best_99 rfl rfl (by decide) rfl rfl rfl ?_
            refine fv_goto 28 dX7_best_102 (by decide) ?_
            have h9 := bst_u (bst_z v (by omega) c70)
            have h8 := ih (by omega) (wgt (ans T n i w)) (some (.int (wgt (ans T n i w)))) D2 (hK.tr hK2) (fun _ => by rw [h9])
            rw [h9] at h8
            rw [nI_1]
            exact h8
          · have hi0 : 0 < i := by rcases Nat.eq_zero_or_pos i with q | q; (subst q; exact absurd rfl c70); exact q
            refine fv_iload (q := 75) dX7_best_73 rfl rfl ?_
            refine fv_iload_n (q := 76) dX7_best_75 rfl rfl ?_
            refine fv_icmp_le (q := 79) 84 dX7_best_76 (by decide) rfl (fun c76 => ?_) (fun c76 => ?_)
            · refine fv_iload_n (q := 85) dX7_best_84 rfl rfl ?_
              refine fv_istore_n (i := 2) (q := 86) (l' := [_, _, _, _, _, _]) dX7_best_85 rfl (by decide) rfl rfl rfl ?_
              refine fv_iload_n (q := 87) dX7_best_86 rfl rfl ?_
              refine fv_iload (q := 89) dX7_best_87 rfl rfl ?_
              refine fv_icmp_ne (q := 92) 97 dX7_best_89 (by decide) rfl (fun c89 => ?_) (fun c89 => absurd c89 (by obtain ⟨j, hj, e⟩ := bst_p v w i hi0; rw [e, nI_eq (by omega) (by omega)]; omega))
              refine fv_iload_n (q := 98) dX7_best_97 rfl rfl ?_
              refine fv_istore_n (i := 3) (q := 99) (l' := [_, _, _, _, _, _]) dX7_best_98 rfl (by decide) rfl rfl rfl ?_
              refine fv_iinc (v := _ + 1) (q := 102) (l' := [_, _, _, _, _, _]) dX7_best_99 rfl rfl (by decide) rfl rfl rfl ?_
              refine fv_goto 28 dX7_best_102 (by decide) ?_
              have h9 := bst_k (T := T) (n := n) (w := w) (m := i) (by rw [← hmo hi0, fa_lt]; rw [fa_le] at c76; omega)
              have h8 := ih (by omega) mo (some (.int (wgt (ans T n i w)))) D2 (hK.tr hK2) (fun _ => by rw [h9]; exact hmo hi0)
              rw [h9] at h8
              rw [nI_1]
              exact h8
            · refine fv_iload (q := 81) dX7_best_79 rfl rfl ?_
              refine fv_goto 85 dX7_best_81 (by decide) ?_
              refine fv_istore_n (i := 2) (q := 86) (l' := [_, _, _, _, _, _]) dX7_best_85 rfl (by decide) rfl rfl rfl ?_
              refine fv_iload_n (q := 87) dX7_best_86 rfl rfl ?_
              refine fv_iload (q := 89) dX7_best_87 rfl rfl ?_
              refine fv_icmp_ne (q := 92) 97 dX7_best_89 (by decide) rfl (fun c89 => absurd rfl c89) (fun c89 => ?_)
              refine fv_iload (q := 94) dX7_best_92 rfl rfl ?_
              refine fv_goto 98 dX7_best_94 (by decide) ?_
              refine fv_istore_n (i := 3) (q := 99) (l' := [_, _, _, _, _, _]) dX7_best_98 rfl (by decide) rfl rfl rfl ?_
              refine fv_iinc (v := _ + 1) (q := 102) (l' := [_, _, _, _, _, _]) dX7_best_99 rfl rfl (by decide) rfl rfl rfl ?_
              refine fv_goto 28 dX7_best_102 (by decide) ?_
              have h9 := bst_u (by rw [← hmo hi0, fa_lt]; rw [fa_le] at c76; omega)
              have h8 := ih (by omega) (wgt (ans T n i w)) (some (.int (wgt (ans T n i w)))) D2 (hK.tr hK2) (fun _ => by rw [h9])
              rw [h9] at h8
              rw [nI_1]
              exact h8
    exact loop 0 (Nat.zero_le _) 0 none D1 (KF.rf D1) (fun h => absurd h (Nat.lt_irrefl _))
  · rw [bi_0] at c7
    refine fv_ldc (q := 12) dX7_best_10 kX7_157 rfl ?_
    refine fv_iret dX7_best_12 rfl rfl (Nat.le_refl _) ?_
    exact hPost _ _ _ ⟨by unfold f_best; rw [if_pos c7], hX, KM.rf⟩
