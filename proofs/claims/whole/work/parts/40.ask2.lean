set_option maxHeartbeats 4000000 in
set_option maxRecDepth 100000 in
theorem c_told (D : Nat → Nat → Int32) (J : Nat → Nat → Int64) (σ : Sg) (hX : XR D σ) (ok : SgOk σ) (w : Int32) : FD yX6_told cX6_told 2 (some .int) 6 [.ref 0, .int w] D J (fun res D' J' => res = some (.int (f_told σ w)) ∧ XR D' σ ∧ KX D D' J J') := by
  refine FD.of (by decide) rfl (Nat.le_of_ble_eq_true rfl) (fun Post hPost => ?_)
  show FV _ _ _ _ _ _ _ _ _ _ _ _ [_, _] [] _
  obtain ⟨T, n, P, I, B, s⟩ := σ
  have hT : TabOf D 3 T := hX.1
  have hO : OrdOf D 1 T n := hX.2.1
  have hH : HisOf D P := hX.2.2.1
  have hI : ImgOf D I := hX.2.2.2.1
  have hB : BookOf D B := hX.2.2.2.2.1
  have hs : D 0 9 = s := hX.2.2.2.2.2
  have v : VT T n := ok.1
  have h40 := v.2.1
  have hn : D 3 3 = nI n := hT.n v
  have hb := len1
  refine fv_iload_n (q := 1) dX6_told_0 rfl rfl ?_
  have hHl : D 27 2 = nI P.length := hH.choose_spec.2.2.1
  have w0 : w = 0 → FV cX6_told 2 (some .int) yX6_told.cls yX6_told.name 6 0 0 Post 0 0 64 [some (.ref 0), some (.int w)] [] (lay D J) := by
    intro h0
    refine fv_aload_n (q := 65) dX6_told_64 rfl rfl ?_
    refine fl_getR (q := 68) dX6_told_65 fX6_27 sh0 rfl rfl ?_
    refine fl_getI (q := 71) dX6_told_68 fX6_62 hb.tab.sh.1 rfl rfl ?_
    refine fv_top hn ?_
    refine fv_iret dX6_told_71 rfl rfl (Nat.le_refl _) ?_
    exact hPost _ _ _ ⟨by unfold f_told; rw [if_pos h0], hX, KX.rf⟩
  have w1 : ¬ w = 0 → w = 1 → FV cX6_told 2 (some .int) yX6_told.cls yX6_told.name 6 0 0 Post 0 0 72 [some (.ref 0), some (.int w)] [] (lay D J) := by
    intro h0 h1
    refine fv_aload_n (q := 73) dX6_told_72 rfl rfl ?_
    refine fl_getR (q := 76) dX6_told_73 fX6_20 sh0 rfl rfl ?_
    refine fl_callVi (As := []) (q := 79) dX6_told_76 gX6_67 rfl hb.ord rfl rfl (Nat.le_of_ble_eq_true rfl) rfl (by decide) (c_partsHeld 1 len1 D J T n hT v hO) ?_
    refine fv_iret dX6_told_79 rfl rfl (Nat.le_refl _) ?_
    exact hPost _ _ _ ⟨by unfold f_told; rw [if_neg h0, if_pos h1]; rfl, hX, KX.rf⟩
  have w2 : ¬ w = 0 → ¬ w = 1 → w = 2 → FV cX6_told 2 (some .int) yX6_told.cls yX6_told.name 6 0 0 Post 0 0 80 [some (.ref 0), some (.int w)] [] (lay D J) := by
    intro h0 h1 h2
    refine fv_aload_n (q := 81) dX6_told_80 rfl rfl ?_
    refine fl_getR (q := 84) dX6_told_81 fX6_20 sh0 rfl rfl ?_
    refine fl_callVi (As := []) (q := 87) dX6_told_84 gX6_71 rfl hb.ord rfl rfl (Nat.le_of_ble_eq_true rfl) rfl (by decide) (c_groupsHeld 1 len1 D J T n hT v hO) ?_
    refine fv_iret dX6_told_87 rfl rfl (Nat.le_refl _) ?_
    exact hPost _ _ _ ⟨by unfold f_told; rw [if_neg h0, if_neg h1, if_pos h2]; rfl, hX, KX.rf⟩
  have w3 : ¬ w = 0 → ¬ w = 1 → ¬ w = 2 → w = 3 → FV cX6_told 2 (some .int) yX6_told.cls yX6_told.name 6 0 0 Post 0 0 88 [some (.ref 0), some (.int w)] [] (lay D J) := by
    intro h0 h1 h2 h3
    refine fv_aload_n (q := 89) dX6_told_88 rfl rfl ?_
    refine fl_getR (q := 92) dX6_told_89 fX6_27 sh0 rfl rfl ?_
    refine fl_getI (q := 95) dX6_told_92 fX6_74 hb.tab.sh.1 rfl rfl ?_
    refine fv_top (hT.1 1 (by decide)) ?_
    refine fv_iret dX6_told_95 rfl rfl (Nat.le_refl _) ?_
    exact hPost _ _ _ ⟨by unfold f_told; rw [if_neg h0, if_neg h1, if_neg h2, if_pos h3], hX, KX.rf⟩
  have w4 : ¬ w = 0 → ¬ w = 1 → ¬ w = 2 → ¬ w = 3 → w = 4 → FV cX6_told 2 (some .int) yX6_told.cls yX6_told.name 6 0 0 Post 0 0 96 [some (.ref 0), some (.int w)] [] (lay D J) := by
    intro h0 h1 h2 h3 h4
    refine fv_aload_n (q := 97) dX6_told_96 rfl rfl ?_
    refine fl_getR (q := 100) dX6_told_97 fX6_27 sh0 rfl rfl ?_
    refine fl_getI (q := 103) dX6_told_100 fX6_77 hb.tab.sh.1 rfl rfl ?_
    refine fv_top (hT.1 2 (by decide)) ?_
    refine fv_bipush (v := 100) (q := 105) dX6_told_103 (by decide) rfl ?_
    refine fv_iadd (q := 106) dX6_told_105 rfl ?_
    refine fv_iret dX6_told_106 rfl rfl (Nat.le_refl _) ?_
    exact hPost _ _ _ ⟨by unfold f_told; rw [if_neg h0, if_neg h1, if_neg h2, if_neg h3, if_pos h4], hX, KX.rf⟩
  have w5 : ¬ w = 0 → ¬ w = 1 → ¬ w = 2 → ¬ w = 3 → ¬ w = 4 → w = 5 → FV cX6_told 2 (some .int) yX6_told.cls yX6_told.name 6 0 0 Post 0 0 107 [some (.ref 0), some (.int w)] [] (lay D J) := by
    intro h0 h1 h2 h3 h4 h5
    refine fv_aload_n (q := 108) dX6_told_107 rfl rfl ?_
    refine fl_getR (q := 111) dX6_told_108 fX6_27 sh0 rfl rfl ?_
    refine fl_getI (q := 114) dX6_told_111 fX6_80 hb.tab.sh.1 rfl rfl ?_
    refine fv_top (hT.1 3 (by decide)) ?_
    refine fv_bipush (v := 100) (q := 116) dX6_told_114 (by decide) rfl ?_
    refine fv_iadd (q := 117) dX6_told_116 rfl ?_
    refine fv_iret dX6_told_117 rfl rfl (Nat.le_refl _) ?_
    exact hPost _ _ _ ⟨by unfold f_told; rw [if_neg h0, if_neg h1, if_neg h2, if_neg h3, if_neg h4, if_pos h5], hX, KX.rf⟩
  have w6 : ¬ w = 0 → ¬ w = 1 → ¬ w = 2 → ¬ w = 3 → ¬ w = 4 → ¬ w = 5 → w = 6 → FV cX6_told 2 (some .int) yX6_told.cls yX6_told.name 6 0 0 Post 0 0 118 [some (.ref 0), some (.int w)] [] (lay D J) := by
    intro h0 h1 h2 h3 h4 h5 h6
    refine fv_aload_n (q := 119) dX6_told_118 rfl rfl ?_
    refine fl_getR (q := 122) dX6_told_119 fX6_27 sh0 rfl rfl ?_
    refine fl_getI (q := 125) dX6_told_122 fX6_83 hb.tab.sh.1 rfl rfl ?_
    refine fv_top (hT.1 4 (by decide)) ?_
    refine fv_iret dX6_told_125 rfl rfl (Nat.le_refl _) ?_
    exact hPost _ _ _ ⟨by unfold f_told; rw [if_neg h0, if_neg h1, if_neg h2, if_neg h3, if_neg h4, if_neg h5, if_pos h6], hX, KX.rf⟩
  have w7 : ¬ w = 0 → ¬ w = 1 → ¬ w = 2 → ¬ w = 3 → ¬ w = 4 → ¬ w = 5 → ¬ w = 6 → w = 7 → FV cX6_told 2 (some .int) yX6_told.cls yX6_told.name 6 0 0 Post 0 0 126 [some (.ref 0), some (.int w)] [] (lay D J) := by
    intro h0 h1 h2 h3 h4 h5 h6 h7
    refine fv_aload_n (q := 127) dX6_told_126 rfl rfl ?_
    refine fl_getR (q := 130) dX6_told_127 fX6_27 sh0 rfl rfl ?_
    refine fl_getI (q := 133) dX6_told_130 fX6_86 hb.tab.sh.1 rfl rfl ?_
    refine fv_top (hT.1 5 (by decide)) ?_
    refine fv_if_eq (q := 136) 140 dX6_told_133 (by decide) rfl (fun c133 => ?_) (fun c133 => ?_)
    · refine fv_iconst (v := 0) (q := 141) dX6_told_140 (by decide) rfl ?_
      refine fv_iret dX6_told_141 rfl rfl (Nat.le_refl _) ?_
      exact hPost _ _ _ ⟨by unfold f_told; rw [if_neg h0, if_neg h1, if_neg h2, if_neg h3, if_neg h4, if_neg h5, if_neg h6, if_pos h7]; show _ = some (Value.int (T 5)); rw [c133], hX, KX.rf⟩
    · refine fv_iconst (v := 1) (q := 137) dX6_told_136 (by decide) rfl ?_
      refine fv_goto 141 dX6_told_137 (by decide) ?_
      refine fv_iret dX6_told_141 rfl rfl (Nat.le_refl _) ?_
      exact hPost _ _ _ ⟨by unfold f_told; rw [if_neg h0, if_neg h1, if_neg h2, if_neg h3, if_neg h4, if_neg h5, if_neg h6, if_pos h7]; show _ = some (Value.int (T 5)); rcases v.2.2.1 with z | z; exact absurd z c133; rw [z], hX, KX.rf⟩
  have w8 : ¬ w = 0 → ¬ w = 1 → ¬ w = 2 → ¬ w = 3 → ¬ w = 4 → ¬ w = 5 → ¬ w = 6 → ¬ w = 7 → w = 8 → FV cX6_told 2 (some .int) yX6_told.cls yX6_told.name 6 0 0 Post 0 0 142 [some (.ref 0), some (.int w)] [] (lay D J) := by
    intro h0 h1 h2 h3 h4 h5 h6 h7 h8
    refine fv_aload_n (q := 143) dX6_told_142 rfl rfl ?_
    refine fl_getR (q := 146) dX6_told_143 fX6_10 sh0 rfl rfl ?_
    refine fl_callV (As := []) (q := 149) dX6_told_146 gX6_90 rfl hb.len rfl rfl (Nat.le_of_ble_eq_true rfl) rfl (by decide) (c_alike 1 len1 D J T n hT v hO) (fun res D1 J1 hp => ?_)
    obtain ⟨rfl, hf, hJ⟩ := hp
    refine fv_iret dX6_told_149 rfl rfl (Nat.le_refl _) ?_
    exact hPost _ _ _ ⟨by unfold f_told; rw [if_neg h0, if_neg h1, if_neg h2, if_neg h3, if_neg h4, if_neg h5, if_neg h6, if_neg h7, if_pos h8], hX.len hf, ⟨fun a ha => hf a (by omega) (by omega) (by omega), fun a ha => hJ a (by omega)⟩⟩
  have w9 : ¬ w = 0 → ¬ w = 1 → ¬ w = 2 → ¬ w = 3 → ¬ w = 4 → ¬ w = 5 → ¬ w = 6 → ¬ w = 7 → ¬ w = 8 → w = 9 → FV cX6_told 2 (some .int) yX6_told.cls yX6_told.name 6 0 0 Post 0 0 150 [some (.ref 0), some (.int w)] [] (lay D J) := by
    intro h0 h1 h2 h3 h4 h5 h6 h7 h8 h9
    refine fv_aload_n (q := 151) dX6_told_150 rfl rfl ?_
    refine fl_getR (q := 154) dX6_told_151 fX6_47 sh0 rfl rfl ?_
    refine fl_getI (q := 157) dX6_told_154 fX6_93 sh109 rfl rfl ?_
    refine fv_top hB.1 ?_
    refine fv_iret dX6_told_157 rfl rfl (Nat.le_refl _) ?_
    exact hPost _ _ _ ⟨by unfold f_told; rw [if_neg h0, if_neg h1, if_neg h2, if_neg h3, if_neg h4, if_neg h5, if_neg h6, if_neg h7, if_neg h8, if_pos h9], hX, KX.rf⟩
  have w10 : ¬ w = 0 → ¬ w = 1 → ¬ w = 2 → ¬ w = 3 → ¬ w = 4 → ¬ w = 5 → ¬ w = 6 → ¬ w = 7 → ¬ w = 8 → ¬ w = 9 → w = 10 → FV cX6_told 2 (some .int) yX6_told.cls yX6_told.name 6 0 0 Post 0 0 158 [some (.ref 0), some (.int w)] [] (lay D J) := by
    intro h0 h1 h2 h3 h4 h5 h6 h7 h8 h9 h10
    refine fv_aload_n (q := 159) dX6_told_158 rfl rfl ?_
    refine fl_getR (q := 162) dX6_told_159 fX6_47 sh0 rfl rfl ?_
    refine fv_aload_n (q := 163) dX6_told_162 rfl rfl ?_
    refine fl_getR (q := 166) dX6_told_163 fX6_10 sh0 rfl rfl ?_
    refine fl_callV (As := [_]) (q := 169) dX6_told_166 gX6_94 rfl sh109 rfl rfl (Nat.le_of_ble_eq_true rfl) rfl (by decide) (c_firstWrong D J T n hT v hO B hB) (fun res D1 J1 hp => ?_)
    obtain ⟨rfl, rfl, hf⟩ := hp
    refine fv_iret dX6_told_169 rfl rfl (Nat.le_refl _) ?_
    exact hPost _ _ _ ⟨by unfold f_told; rw [if_neg h0, if_neg h1, if_neg h2, if_neg h3, if_neg h4, if_neg h5, if_neg h6, if_neg h7, if_neg h8, if_neg h9, if_pos h10], hX.len hf, KX.of hf⟩
  have w11 : ¬ w = 0 → ¬ w = 1 → ¬ w = 2 → ¬ w = 3 → ¬ w = 4 → ¬ w = 5 → ¬ w = 6 → ¬ w = 7 → ¬ w = 8 → ¬ w = 9 → ¬ w = 10 → w = 11 → FV cX6_told 2 (some .int) yX6_told.cls yX6_told.name 6 0 0 Post 0 0 170 [some (.ref 0), some (.int w)] [] (lay D J) := by
    intro h0 h1 h2 h3 h4 h5 h6 h7 h8 h9 h10 h11
    refine fv_aload_n (q := 171) dX6_told_170 rfl rfl ?_
    refine fl_getR (q := 174) dX6_told_171 fX6_40 sh0 rfl rfl ?_
    refine fl_getI (q := 177) dX6_told_174 fX6_98 sh27 rfl rfl ?_
    refine fv_top hHl ?_
    refine fv_iret dX6_told_177 rfl rfl (Nat.le_refl _) ?_
    exact hPost _ _ _ ⟨by unfold f_told; rw [if_neg h0, if_neg h1, if_neg h2, if_neg h3, if_neg h4, if_neg h5, if_neg h6, if_neg h7, if_neg h8, if_neg h9, if_neg h10, if_pos h11], hX, KX.rf⟩
  have wd : ¬ w = 0 → ¬ w = 1 → ¬ w = 2 → ¬ w = 3 → ¬ w = 4 → ¬ w = 5 → ¬ w = 6 → ¬ w = 7 → ¬ w = 8 → ¬ w = 9 → ¬ w = 10 → ¬ w = 11 → FV cX6_told 2 (some .int) yX6_told.cls yX6_told.name 6 0 0 Post 0 0 178 [some (.ref 0), some (.int w)] [] (lay D J) := by
    intro h0 h1 h2 h3 h4 h5 h6 h7 h8 h9 h10 h11
    refine fv_ldc (q := 180) dX6_told_178 kX6_99 rfl ?_
    refine fv_iret dX6_told_180 rfl rfl (Nat.le_refl _) ?_
    exact hPost _ _ _ ⟨by unfold f_told; rw [if_neg h0, if_neg h1, if_neg h2, if_neg h3, if_neg h4, if_neg h5, if_neg h6, if_neg h7, if_neg h8, if_neg h9, if_neg h10, if_neg h11], hX, KX.rf⟩
  by_cases h0 : w = 0
  · refine fv_top h0 ?_
    exact fv_tableIn 64 dX6_told_1 (by decide) (by decide) rfl (by decide) (w0 h0)
  · skip
    by_cases h1 : w = 1
    · refine fv_top h1 ?_
      exact fv_tableIn 72 dX6_told_1 (by decide) (by decide) rfl (by decide) (w1 h0 h1)
    · skip
      by_cases h2 : w = 2
      · refine fv_top h2 ?_
        exact fv_tableIn 80 dX6_told_1 (by decide) (by decide) rfl (by decide) (w2 h0 h1 h2)
      · skip
        by_cases h3 : w = 3
        · refine fv_top h3 ?_
          exact fv_tableIn 88 dX6_told_1 (by decide) (by decide) rfl (by decide) (w3 h0 h1 h2 h3)
        · skip
          by_cases h4 : w = 4
          · refine fv_top h4 ?_
            exact fv_tableIn 96 dX6_told_1 (by decide) (by decide) rfl (by decide) (w4 h0 h1 h2 h3 h4)
          · skip
            by_cases h5 : w = 5
            · refine fv_top h5 ?_
              exact fv_tableIn 107 dX6_told_1 (by decide) (by decide) rfl (by decide) (w5 h0 h1 h2 h3 h4 h5)
            · skip
              by_cases h6 : w = 6
              · refine fv_top h6 ?_
                exact fv_tableIn 118 dX6_told_1 (by decide) (by decide) rfl (by decide) (w6 h0 h1 h2 h3 h4 h5 h6)
              · skip
                by_cases h7 : w = 7
                · refine fv_top h7 ?_
                  exact fv_tableIn 126 dX6_told_1 (by decide) (by decide) rfl (by decide) (w7 h0 h1 h2 h3 h4 h5 h6 h7)
                · skip
                  by_cases h8 : w = 8
                  · refine fv_top h8 ?_
                    exact fv_tableIn 142 dX6_told_1 (by decide) (by decide) rfl (by decide) (w8 h0 h1 h2 h3 h4 h5 h6 h7 h8)
                  · skip
                    by_cases h9 : w = 9
                    · refine fv_top h9 ?_
                      exact fv_tableIn 150 dX6_told_1 (by decide) (by decide) rfl (by decide) (w9 h0 h1 h2 h3 h4 h5 h6 h7 h8 h9)
                    · skip
                      by_cases h10 : w = 10
                      · refine fv_top h10 ?_
                        exact fv_tableIn 158 dX6_told_1 (by decide) (by decide) rfl (by decide) (w10 h0 h1 h2 h3 h4 h5 h6 h7 h8 h9 h10)
                      · skip
                        by_cases h11 : w = 11
                        · refine fv_top h11 ?_
                          exact fv_tableIn 170 dX6_told_1 (by decide) (by decide) rfl (by decide) (w11 h0 h1 h2 h3 h4 h5 h6 h7 h8 h9 h10 h11)
                        · skip
                          have k0 : (w).toInt ≠ 0 := fun z => h0 (by rw [fa_eq]; exact z)
                          have k1 : (w).toInt ≠ 1 := fun z => h1 (by rw [fa_eq]; exact z)
                          have k2 : (w).toInt ≠ 2 := fun z => h2 (by rw [fa_eq]; exact z)
                          have k3 : (w).toInt ≠ 3 := fun z => h3 (by rw [fa_eq]; exact z)
                          have k4 : (w).toInt ≠ 4 := fun z => h4 (by rw [fa_eq]; exact z)
                          have k5 : (w).toInt ≠ 5 := fun z => h5 (by rw [fa_eq]; exact z)
                          have k6 : (w).toInt ≠ 6 := fun z => h6 (by rw [fa_eq]; exact z)
                          have k7 : (w).toInt ≠ 7 := fun z => h7 (by rw [fa_eq]; exact z)
                          have k8 : (w).toInt ≠ 8 := fun z => h8 (by rw [fa_eq]; exact z)
                          have k9 : (w).toInt ≠ 9 := fun z => h9 (by rw [fa_eq]; exact z)
                          have k10 : (w).toInt ≠ 10 := fun z => h10 (by rw [fa_eq]; exact z)
                          have k11 : (w).toInt ≠ 11 := fun z => h11 (by rw [fa_eq]; exact z)
                          exact fv_tableOut 178 dX6_told_1 (by omega) (by decide) (wd h0 h1 h2 h3 h4 h5 h6 h7 h8 h9 h10 h11)
set_option maxHeartbeats 4000000 in
set_option maxRecDepth 100000 in
theorem c_changed (D : Nat → Nat → Int32) (J : Nat → Nat → Int64) (T : Nat → Int32) (n : Nat) (hT : TabOf D 3 T) (v : VT T n) (hO : OrdOf D 1 T n) (j : Nat) (hj : j < n) : FD yX6_changedWithout cX6_changedWithout 5 (some .int) 5 [.ref 0, .int (nI j)] D J (fun res D' J' => res = some (.int (nI (chg T n j))) ∧ J' = J ∧ ∀ a, a ≠ 1 ∧ a ≠ 11 ∧ a ≠ 12 ∧ (a < 14 ∨ 27 ≤ a) → D' a = D a) := by
  refine FD.of (by decide) rfl (Nat.le_of_ble_eq_true rfl) (fun Post hPost => ?_)
  show FV _ _ _ _ _ _ _ _ _ _ _ _ [_, _, _, _, _] [] _
  have h40 := v.2.1
  have hb := len1
  have loop : ∀ (D0 : Nat → Nat → Int32), TabOf D0 (14 + 2) (dropT T n j) → OrdOf D0 14 (dropT T n j) (n - 1) → ∀ i, i ≤ n → ∀ (l4 : Option Value) (E : Nat → Nat → Int32), (∀ a, (a ≠ 1 ∧ a ≠ 11 ∧ a ≠ 12 ∧ a ≠ 14 ∧ a ≠ 24 ∧ a ≠ 25) → E a = D0 a) → (∀ a, a ≠ 1 ∧ a ≠ 11 ∧ a ≠ 12 ∧ (a < 14 ∨ 27 ≤ a) → E a = D a) → FV cX6_changedWithout 5 (some .int) yX6_changedWithout.cls yX6_changedWithout.name 5 0 0 Post 0 0 30 [some (.ref 0), some (.int (nI j)), some (.int (nI (fb_ct (fun r => decide (¬ r = j) && decide (¬ ans T n r 2 = ans (dropT T n j) (n - 1) (if r < j then r else r - 1) 2)) i))), some (.int (nI i)), l4] [] (lay E J) := by
    intro D0 hT2 hO2
    refine up_ind (fun i hi ih => ?_)
    intro l4 E hf3 hfE
    have hTE : TabOf E 3 T := hT.of (hfE _ (by omega)) (hfE _ (by omega)) (hfE _ (by omega)) (hfE _ (by omega))
    have hOE : OrdOf E 1 T n := hO.of (hfE _ (by omega)) (hfE _ (by omega)) (hfE _ (by omega)) (hfE _ (by omega))
    have hTt : TabOf E (14 + 2) (dropT T n j) := hT2.of (hf3 _ (by omega)) (hf3 _ (by omega)) (hf3 _ (by omega)) (hf3 _ (by omega))
    have hOt : OrdOf E 14 (dropT T n j) (n - 1) := hO2.of (hf3 _ (by omega)) (hf3 _ (by omega)) (hf3 _ (by omega)) (hf3 _ (by omega))
    have v2 : VT (dropT T n j) (n - 1) := VT_drop v hj
    refine fv_iload_n (q := 31) dX6_changedWithout_30 rfl rfl ?_
    refine fv_aload_n (q := 32) dX6_changedWithout_31 rfl rfl ?_
    refine fl_getR (q := 35) dX6_changedWithout_32 fX6_27 sh0 rfl rfl ?_
    refine fl_getI (q := 38) dX6_changedWithout_35 fX6_62 hb.tab.sh.1 rfl rfl ?_
    refine fv_top (hTE.n v) ?_
    refine fv_icmp_ge (q := 41) 89 dX6_changedWithout_38 (by decide) rfl (fun c38 => ?_) (fun c38 => ?_)
    · rw [nI_leI (by omega) (by omega)] at c38
      have hin : i = n := by omega
      subst hin
      refine fv_iload_n (q := 90) dX6_changedWithout_89 rfl rfl ?_
      refine fv_iret dX6_changedWithout_90 rfl rfl (Nat.le_refl _) ?_
      exact hPost _ _ _ ⟨rfl, rfl, hfE⟩
    · rw [nI_leI (by omega) (by omega)] at c38
      refine fv_iload_n (q := 42) dX6_changedWithout_41 rfl rfl ?_
      refine fv_iload_n (q := 43) dX6_changedWithout_42 rfl rfl ?_
      refine fv_icmp_ge (q := 46) 50 dX6_changedWithout_43 (by decide) rfl (fun c43 => ?_) (fun c43 => ?_)
      · rw [nI_leI (by omega) (by omega)] at c43
        refine fv_iload_n (q := 51) dX6_changedWithout_50 rfl rfl ?_
        refine fv_iconst (v := 1) (q := 52) dX6_changedWithout_51 (by decide) rfl ?_
        refine fv_isub (q := 53) dX6_changedWithout_52 rfl ?_
        refine fv_istore (q := 55) (l' := [_, _, _, _, _]) dX6_changedWithout_53 (by decide) rfl rfl rfl ?_
        refine fv_iload_n (q := 56) dX6_changedWithout_55 rfl rfl ?_
        refine fv_iload_n (q := 57) dX6_changedWithout_56 rfl rfl ?_
        refine fv_icmp_eq (q := 60) 83 dX6_changedWithout_57 (by decide) rfl (fun c57 => ?_) (fun c57 => ?_)
        · rw [nI_eq (by omega) (by omega)] at c57
          refine fv_iinc (v := _ + 1) (q := 86) (l' := [_, _, _, _, _]) dX6_changedWithout_83 rfl rfl (by decide) rfl rfl rfl ?_
          refine fv_goto 30 dX6_changedWithout_86 (by decide) ?_
          have hp : ¬ (fun r => decide (¬ r = j) && decide (¬ ans T n r 2 = ans (dropT T n j) (n - 1) (if r < j then r else r - 1) 2)) i = true := by simp [c57]
          have h9 := fun l4 => ih (by omega) l4 E hf3 hfE
          rw [fb_ct_succ, if_neg hp, Nat.add_zero] at h9
          rw [nI_1]
          exact h9 _
        · rw [nI_eq (by omega) (by omega)] at c57
          refine fv_aload_n (q := 61) dX6_changedWithout_60 rfl rfl ?_
          refine fl_getR (q := 64) dX6_changedWithout_61 fX6_10 sh0 rfl rfl ?_
          refine fv_iload_n (q := 65) dX6_changedWithout_64 rfl rfl ?_
          refine fl_callV (As := [_]) (q := 68) dX6_changedWithout_65 gX6_225 rfl hb.len rfl rfl (Nat.le_of_ble_eq_true rfl) rfl (by decide) (c_sum 1 len1 E J T n hTE v hOE i (by omega)) (fun res D1 J1 hp => ?_)
          obtain ⟨rfl, rfl, hfa⟩ := hp
          refine fv_aload_n (q := 69) dX6_changedWithout_68 rfl rfl ?_
          refine fl_getR (q := 72) dX6_changedWithout_69 fX6_28 sh0 rfl rfl ?_
          refine fv_iload (q := 74) dX6_changedWithout_72 rfl rfl ?_
          refine fv_top (y := nI (i - 1)) (pk_sub (b := 1) (by omega)) ?_
          refine fl_callV (As := [_]) (q := 77) dX6_changedWithout_74 gX6_225 rfl len14.len rfl rfl (Nat.le_of_ble_eq_true rfl) rfl (by decide) (c_sum 14 len14 D1 J1 (dropT T n j) (n - 1) (hTt.of (hfa _ (by omega) (by omega) (by omega)) (hfa _ (by omega) (by omega) (by omega)) (hfa _ (by omega) (by omega) (by omega)) (hfa _ (by omega) (by omega) (by omega))) v2 (hOt.of (hfa _ (by omega) (by omega) (by omega)) (hfa _ (by omega) (by omega) (by omega)) (hfa _ (by omega) (by omega) (by omega)) (hfa _ (by omega) (by omega) (by omega))) (i - 1) (by omega)) (fun res2 D2 J2 hp => ?_)
          obtain ⟨rfl, rfl, hfb⟩ := hp
          refine fv_icmp_eq (q := 80) 83 dX6_changedWithout_77 (by decide) rfl (fun c77 => ?_) (fun c77 => ?_)
          · refine fv_iinc (v := _ + 1) (q := 86) (l' := [_, _, _, _, _]) dX6_changedWithout_83 rfl rfl (by decide) rfl rfl rfl ?_
            refine fv_goto 30 dX6_changedWithout_86 (by decide) ?_
            have hp : ¬ (fun r => decide (¬ r = j) && decide (¬ ans T n r 2 = ans (dropT T n j) (n - 1) (if r < j then r else r - 1) 2)) i = true := by
              show ¬ (decide (¬ i = j) && decide (¬ ans T n i 2 = ans (dropT T n j) (n - 1) (if i < j then i else i - 1) 2)) = true
              rw [if_neg (by omega)]
              simp [c57, c77]
            have h9 := fun l4 => ih (by omega) l4 D2 (fun a ha => by rw [hfb a (by omega) (by omega) (by omega), hfa a (by omega) (by omega) (by omega)]; exact hf3 a ha) (fun a ha => by rw [hfb a (by omega) (by omega) (by omega), hfa a (by omega) (by omega) (by omega)]; exact hfE a ha)
            rw [fb_ct_succ, if_neg hp, Nat.add_zero] at h9
            rw [nI_1]
            exact h9 _
          · refine fv_iinc (v := _ + 1) (q := 83) (l' := [_, _, _, _, _]) dX6_changedWithout_80 rfl rfl (by decide) rfl rfl rfl ?_
            refine fv_iinc (v := _ + 1) (q := 86) (l' := [_, _, _, _, _]) dX6_changedWithout_83 rfl rfl (by decide) rfl rfl rfl ?_
            refine fv_goto 30 dX6_changedWithout_86 (by decide) ?_
            have hp : (fun r => decide (¬ r = j) && decide (¬ ans T n r 2 = ans (dropT T n j) (n - 1) (if r < j then r else r - 1) 2)) i = true := by
              show (decide (¬ i = j) && decide (¬ ans T n i 2 = ans (dropT T n j) (n - 1) (if i < j then i else i - 1) 2)) = true
              rw [if_neg (by omega)]
              simp [c57, c77]
            have h9 := fun l4 => ih (by omega) l4 D2 (fun a ha => by rw [hfb a (by omega) (by omega) (by omega), hfa a (by omega) (by omega) (by omega)]; exact hf3 a ha) (fun a ha => by rw [hfb a (by omega) (by omega) (by omega), hfa a (by omega) (by omega) (by omega)]; exact hfE a ha)
            rw [fb_ct_succ, if_pos hp] at h9
            rw [nI_1, nI_1]
            exact h9 _
      · rw [nI_leI (by omega) (by omega)] at c43
        refine fv_iload_n (q := 47) dX6_changedWithout_46 rfl rfl ?_
        refine fv_goto 53 dX6_changedWithout_47 (by decide) ?_
        refine fv_istore (q := 55) (l' := [_, _, _, _, _]) dX6_changedWithout_53 (by decide) rfl rfl rfl ?_
        refine fv_iload_n (q := 56) dX6_changedWithout_55 rfl rfl ?_
        refine fv_iload_n (q := 57) dX6_changedWithout_56 rfl rfl ?_
        refine fv_icmp_eq (q := 60) 83 dX6_changedWithout_57 (by decide) rfl (fun c57 => ?_) (fun c57 => ?_)
        · rw [nI_eq (by omega) (by omega)] at c57
          refine fv_iinc (v := _ + 1) (q := 86) (l' := [_, _, _, _, _]) dX6_changedWithout_83 rfl rfl (by decide) rfl rfl rfl ?_
          refine fv_goto 30 dX6_changedWithout_86 (by decide) ?_
          have hp : ¬ (fun r => decide (¬ r = j) && decide (¬ ans T n r 2 = ans (dropT T n j) (n - 1) (if r < j then r else r - 1) 2)) i = true := by simp [c57]
          have h9 := fun l4 => ih (by omega) l4 E hf3 hfE
          rw [fb_ct_succ, if_neg hp, Nat.add_zero] at h9
          rw [nI_1]
          exact h9 _
        · rw [nI_eq (by omega) (by omega)] at c57
          refine fv_aload_n (q := 61) dX6_changedWithout_60 rfl rfl ?_
          refine fl_getR (q := 64) dX6_changedWithout_61 fX6_10 sh0 rfl rfl ?_
          refine fv_iload_n (q := 65) dX6_changedWithout_64 rfl rfl ?_
          refine fl_callV (As := [_]) (q := 68) dX6_changedWithout_65 gX6_225 rfl hb.len rfl rfl (Nat.le_of_ble_eq_true rfl) rfl (by decide) (c_sum 1 len1 E J T n hTE v hOE i (by omega)) (fun res D1 J1 hp => ?_)
          obtain ⟨rfl, rfl, hfa⟩ := hp
          refine fv_aload_n (q := 69) dX6_changedWithout_68 rfl rfl ?_
          refine fl_getR (q := 72) dX6_changedWithout_69 fX6_28 sh0 rfl rfl ?_
          refine fv_iload (q := 74) dX6_changedWithout_72 rfl rfl ?_
          refine fl_callV (As := [_]) (q := 77) dX6_changedWithout_74 gX6_225 rfl len14.len rfl rfl (Nat.le_of_ble_eq_true rfl) rfl (by decide) (c_sum 14 len14 D1 J1 (dropT T n j) (n - 1) (hTt.of (hfa _ (by omega) (by omega) (by omega)) (hfa _ (by omega) (by omega) (by omega)) (hfa _ (by omega) (by omega) (by omega)) (hfa _ (by omega) (by omega) (by omega))) v2 (hOt.of (hfa _ (by omega) (by omega) (by omega)) (hfa _ (by omega) (by omega) (by omega)) (hfa _ (by omega) (by omega) (by omega)) (hfa _ (by omega) (by omega) (by omega))) i (by omega)) (fun res2 D2 J2 hp => ?_)
          obtain ⟨rfl, rfl, hfb⟩ := hp
          refine fv_icmp_eq (q := 80) 83 dX6_changedWithout_77 (by decide) rfl (fun c77 => ?_) (fun c77 => ?_)
          · refine fv_iinc (v := _ + 1) (q := 86) (l' := [_, _, _, _, _]) dX6_changedWithout_83 rfl rfl (by decide) rfl rfl rfl ?_
            refine fv_goto 30 dX6_changedWithout_86 (by decide) ?_
            have hp : ¬ (fun r => decide (¬ r = j) && decide (¬ ans T n r 2 = ans (dropT T n j) (n - 1) (if r < j then r else r - 1) 2)) i = true := by
              show ¬ (decide (¬ i = j) && decide (¬ ans T n i 2 = ans (dropT T n j) (n - 1) (if i < j then i else i - 1) 2)) = true
              rw [if_pos (by omega)]
              simp [c57, c77]
            have h9 := fun l4 => ih (by omega) l4 D2 (fun a ha => by rw [hfb a (by omega) (by omega) (by omega), hfa a (by omega) (by omega) (by omega)]; exact hf3 a ha) (fun a ha => by rw [hfb a (by omega) (by omega) (by omega), hfa a (by omega) (by omega) (by omega)]; exact hfE a ha)
            rw [fb_ct_succ, if_neg hp, Nat.add_zero] at h9
            rw [nI_1]
            exact h9 _
          · refine fv_iinc (v := _ + 1) (q := 83) (l' := [_, _, _, _, _]) dX6_changedWithout_80 rfl rfl (by decide) rfl rfl rfl ?_
            refine fv_iinc (v := _ + 1) (q := 86) (l' := [_, _, _, _, _]) dX6_changedWithout_83 rfl rfl (by decide) rfl rfl rfl ?_
            refine fv_goto 30 dX6_changedWithout_86 (by decide) ?_
            have hp : (fun r => decide (¬ r = j) && decide (¬ ans T n r 2 = ans (dropT T n j) (n - 1) (if r < j then r else r - 1) 2)) i = true := by
              show (decide (¬ i = j) && decide (¬ ans T n i 2 = ans (dropT T n j) (n - 1) (if i < j then i else i - 1) 2)) = true
              rw [if_pos (by omega)]
              simp [c57, c77]
            have h9 := fun l4 => ih (by omega) l4 D2 (fun a ha => by rw [hfb a (by omega) (by omega) (by omega), hfa a (by omega) (by omega) (by omega)]; exact hf3 a ha) (fun a ha => by rw [hfb a (by omega) (by omega) (by omega), hfa a (by omega) (by omega) (by omega)]; exact hfE a ha)
            rw [fb_ct_succ, if_pos hp] at h9
            rw [nI_1, nI_1]
            exact h9 _
  refine fv_aload_n (q := 1) dX6_changedWithout_0 rfl rfl ?_
  refine fl_getR (q := 4) dX6_changedWithout_1 fX6_34 sh0 rfl rfl ?_
  refine fv_aload_n (q := 5) dX6_changedWithout_4 rfl rfl ?_
  refine fl_getR (q := 8) dX6_changedWithout_5 fX6_27 sh0 rfl rfl ?_
  refine fl_callV (As := [_]) (q := 11) dX6_changedWithout_8 gX6_172 rfl tab16.sh.1 rfl rfl (Nat.le_of_ble_eq_true rfl) rfl (by decide) (c_copy 16 3 tab16 tab3 (by decide) D J (by rw [hT.1 5 (by decide)]; exact v.2.2.1)) (fun res D1 J1 hp => ?_)
  obtain ⟨rfl, rfl, hC, hf1⟩ := hp
  have hT1 : TabOf D1 16 T := hC T hT
  refine fv_aload_n (q := 12) dX6_changedWithout_11 rfl rfl ?_
  refine fl_getR (q := 15) dX6_changedWithout_12 fX6_34 sh0 rfl rfl ?_
  refine fv_iload_n (q := 16) dX6_changedWithout_15 rfl rfl ?_
  refine fl_callV (As := [_]) (q := 19) dX6_changedWithout_16 gX6_158 rfl tab16.sh.1 rfl rfl (Nat.le_of_ble_eq_true rfl) rfl (by decide) (c_drop 16 tab16 n j D1 J1 (hT1.n v) h40 hj) (fun res2 D2 J2 hp => ?_)
  obtain ⟨rfl, rfl, hC2, hf2⟩ := hp
  have hT2 : TabOf D2 16 (dropT T n j) := hC2 T hT1
  refine fv_aload_n (q := 20) dX6_changedWithout_19 rfl rfl ?_
  refine fl_getR (q := 23) dX6_changedWithout_20 fX6_31 sh0 rfl rfl ?_
  refine fl_callV (As := []) (q := 26) dX6_changedWithout_23 gX6_155 rfl len14.ord rfl rfl (Nat.le_of_ble_eq_true rfl) rfl (by decide) (c_settle 14 len14 D2 _ (dropT T n j) (n - 1) hT2 (VT_drop v hj)) (fun res3 D3 J3 hp => ?_)
  obtain ⟨rfl, rfl, hO3, hf3⟩ := hp
  refine fv_iconst (v := 0) (q := 27) dX6_changedWithout_26 (by decide) rfl ?_
  refine fv_istore_n (i := 2) (q := 28) (l' := [_, _, _, _, _]) dX6_changedWithout_27 rfl (by decide) rfl rfl rfl ?_
  refine fv_iconst (v := 0) (q := 29) dX6_changedWithout_28 (by decide) rfl ?_
  refine fv_istore_n (i := 3) (q := 30) (l' := [_, _, _, _, _]) dX6_changedWithout_29 rfl (by decide) rfl rfl rfl ?_
  refine loop D3 (hT2.of (hf3 _ (by decide) (by decide) (by decide) (by decide)) (hf3 _ (by decide) (by decide) (by decide) (by decide)) (hf3 _ (by decide) (by decide) (by decide) (by decide)) (hf3 _ (by decide) (by decide) (by decide) (by decide))) hO3 0 (Nat.zero_le _) _ D3 (fun _ _ => rfl) (fun a ha => ?_)
  rw [hf3 a (by omega) (by omega) (by omega) (by omega), hf2 a (by omega) (by omega) (by omega) (by omega), hf1 a (by omega) (by omega) (by omega) (by omega)]
set_option maxHeartbeats 4000000 in
set_option maxRecDepth 100000 in
theorem c_row (D : Nat → Nat → Int32) (J : Nat → Nat → Int64) (σ : Sg) (hX : XR D σ) (ok : SgOk σ) (r w : Int32) : FD yX6_row cX6_row 3 (some .int) 6 [.ref 0, .int r, .int w] D J (fun res D' J' => res = some (.int (f_row σ r w)) ∧ XR D' σ ∧ KX D D' J J') := by
  refine FD.of (by decide) rfl (Nat.le_of_ble_eq_true rfl) (fun Post hPost => ?_)
  show FV _ _ _ _ _ _ _ _ _ _ _ _ [_, _, _] [] _
  obtain ⟨T, n, P, I, B, s⟩ := σ
  have hT : TabOf D 3 T := hX.1
  have hO : OrdOf D 1 T n := hX.2.1
  have hH : HisOf D P := hX.2.2.1
  have hI : ImgOf D I := hX.2.2.2.1
  have hB : BookOf D B := hX.2.2.2.2.1
  have hs : D 0 9 = s := hX.2.2.2.2.2
  have v : VT T n := ok.1
  have h40 := v.2.1
  have hn : D 3 3 = nI n := hT.n v
  have hb := len1
  refine fv_aload_n (q := 1) dX6_row_0 rfl rfl ?_
  refine fl_getR (q := 4) dX6_row_1 fX6_27 sh0 rfl rfl ?_
  refine fv_iload_n (q := 5) dX6_row_4 rfl rfl ?_
  refine fl_callVi (As := [_]) (q := 8) dX6_row_5 gX6_100 rfl hb.tab.sh.1 rfl rfl (Nat.le_of_ble_eq_true rfl) rfl (by decide) (c_has 3 tab3 r D J) ?_
  refine fv_top (y := bi (okr n r)) (by rw [hn]; rfl) ?_
  refine fv_if_ne (q := 11) 14 dX6_row_8 (by decide) rfl (fun c8 => ?_) (fun c8 => ?_)
  · rw [bi_n'] at c8
    obtain ⟨j, hj, hrj, hjc⟩ := okr_t c8 h40
    refine fv_iload_n (q := 15) dX6_row_14 rfl rfl ?_
    subst hrj
    have w0 : w = 0 → FV cX6_row 3 (some .int) yX6_row.cls yX6_row.name 6 0 0 Post 0 0 64 [some (.ref 0), some (.int (nI j)), some (.int w)] [] (lay D J) := by
      intro h0
      refine fv_aload_n (q := 65) dX6_row_64 rfl rfl ?_
      refine fl_getR (q := 68) dX6_row_65 fX6_27 sh0 rfl rfl ?_
      refine fl_getR (q := 71) dX6_row_68 fX6_105 hb.tab.sh.1 rfl rfl ?_
      refine fv_iload_n (q := 72) dX6_row_71 rfl rfl ?_
      refine fl_iald (q := 73) _ dX6_row_72 hb.tab.sh.2.1 (by decide) rfl (by omega) rfl ?_
      refine fv_top (hT.2.1 j (by omega)) ?_
      refine fv_iret dX6_row_73 rfl rfl (Nat.le_refl _) ?_
      exact hPost _ _ _ ⟨by unfold f_row; rw [if_neg (by rw [c8]; decide), if_pos h0, hjc], hX, KX.rf⟩
    have w1 : ¬ w = 0 → w = 1 → FV cX6_row 3 (some .int) yX6_row.cls yX6_row.name 6 0 0 Post 0 0 74 [some (.ref 0), some (.int (nI j)), some (.int w)] [] (lay D J) := by
      intro h0 h1
      refine fv_aload_n (q := 75) dX6_row_74 rfl rfl ?_
      refine fl_getR (q := 78) dX6_row_75 fX6_27 sh0 rfl rfl ?_
      refine fl_getR (q := 81) dX6_row_78 fX6_109 hb.tab.sh.1 rfl rfl ?_
      refine fv_iload_n (q := 82) dX6_row_81 rfl rfl ?_
      refine fl_iald (q := 83) _ dX6_row_82 hb.tab.sh.2.2.1 (by decide) rfl (by omega) rfl ?_
      refine fv_top (hT.2.2.1 j (by omega)) ?_
      refine fv_iret dX6_row_83 rfl rfl (Nat.le_refl _) ?_
      exact hPost _ _ _ ⟨by unfold f_row; rw [if_neg (by rw [c8]; decide), if_neg h0, if_pos h1, hjc], hX, KX.rf⟩
    have w2 : ¬ w = 0 → ¬ w = 1 → w = 2 → FV cX6_row 3 (some .int) yX6_row.cls yX6_row.name 6 0 0 Post 0 0 84 [some (.ref 0), some (.int (nI j)), some (.int w)] [] (lay D J) := by
      intro h0 h1 h2
      refine fv_aload_n (q := 85) dX6_row_84 rfl rfl ?_
      refine fl_getR (q := 88) dX6_row_85 fX6_27 sh0 rfl rfl ?_
      refine fl_getR (q := 91) dX6_row_88 fX6_112 hb.tab.sh.1 rfl rfl ?_
      refine fv_iload_n (q := 92) dX6_row_91 rfl rfl ?_
      refine fl_iald (q := 93) _ dX6_row_92 hb.tab.sh.2.2.2 (by decide) rfl (by omega) rfl ?_
      refine fv_top (hT.2.2.2 j (by omega)) ?_
      refine fv_iret dX6_row_93 rfl rfl (Nat.le_refl _) ?_
      exact hPost _ _ _ ⟨by unfold f_row; rw [if_neg (by rw [c8]; decide), if_neg h0, if_neg h1, if_pos h2, hjc], hX, KX.rf⟩
    have w3 : ¬ w = 0 → ¬ w = 1 → ¬ w = 2 → w = 3 → FV cX6_row 3 (some .int) yX6_row.cls yX6_row.name 6 0 0 Post 0 0 94 [some (.ref 0), some (.int (nI j)), some (.int w)] [] (lay D J) := by
      intro h0 h1 h2 h3
      refine fv_aload_n (q := 95) dX6_row_94 rfl rfl ?_
      refine fl_getR (q := 98) dX6_row_95 fX6_20 sh0 rfl rfl ?_
      refine fl_getR (q := 101) dX6_row_98 fX6_115 hb.ord rfl rfl ?_
      refine fv_iload_n (q := 102) dX6_row_101 rfl rfl ?_
      refine fl_iald (q := 103) _ dX6_row_102 hb.arr.2.2.1 (by decide) rfl (by omega) rfl ?_
      refine fv_top (hO.2.2.1 j hj) ?_
      refine fv_iret dX6_row_103 rfl rfl (Nat.le_refl _) ?_
      exact hPost _ _ _ ⟨by unfold f_row; rw [if_neg (by rw [c8]; decide), if_neg h0, if_neg h1, if_neg h2, if_pos h3, hjc], hX, KX.rf⟩
    have w4 : ¬ w = 0 → ¬ w = 1 → ¬ w = 2 → ¬ w = 3 → w = 4 → FV cX6_row 3 (some .int) yX6_row.cls yX6_row.name 6 0 0 Post 0 0 104 [some (.ref 0), some (.int (nI j)), some (.int w)] [] (lay D J) := by
      intro h0 h1 h2 h3 h4
      refine fv_iconst (v := 1) (q := 105) dX6_row_104 (by decide) rfl ?_
      refine fv_aload_n (q := 106) dX6_row_105 rfl rfl ?_
      refine fl_getR (q := 109) dX6_row_106 fX6_20 sh0 rfl rfl ?_
      refine fv_iload_n (q := 110) dX6_row_109 rfl rfl ?_
      refine fl_callVi (As := [_]) (q := 113) dX6_row_110 gX6_118 rfl hb.ord rfl rfl (Nat.le_of_ble_eq_true rfl) rfl (by decide) (c_aheadOfPeers 1 len1 D J T n hT v hO j hj) ?_
      refine fv_iadd (q := 114) dX6_row_113 rfl ?_
      refine fv_iret dX6_row_114 rfl rfl (Nat.le_refl _) ?_
      exact hPost _ _ _ ⟨by unfold f_row; rw [if_neg (by rw [c8]; decide), if_neg h0, if_neg h1, if_neg h2, if_neg h3, if_pos h4, hjc, show (1 : Int32) = nI 1 from rfl, nI_add], hX, KX.rf⟩
    have w5 : ¬ w = 0 → ¬ w = 1 → ¬ w = 2 → ¬ w = 3 → ¬ w = 4 → w = 5 → FV cX6_row 3 (some .int) yX6_row.cls yX6_row.name 6 0 0 Post 0 0 115 [some (.ref 0), some (.int (nI j)), some (.int w)] [] (lay D J) := by
      intro h0 h1 h2 h3 h4 h5
      refine fv_iconst (v := 1) (q := 116) dX6_row_115 (by decide) rfl ?_
      refine fv_aload_n (q := 117) dX6_row_116 rfl rfl ?_
      refine fl_getR (q := 120) dX6_row_117 fX6_20 sh0 rfl rfl ?_
      refine fl_getR (q := 123) dX6_row_120 fX6_122 hb.ord rfl rfl ?_
      refine fv_iload_n (q := 124) dX6_row_123 rfl rfl ?_
      refine fl_iald (q := 125) _ dX6_row_124 hb.arr.2.2.2.1 (by decide) rfl (by omega) rfl ?_
      refine fv_top (hO.2.2.2 j hj) ?_
      refine fv_iadd (q := 126) dX6_row_125 rfl ?_
      refine fv_iret dX6_row_126 rfl rfl (Nat.le_refl _) ?_
      exact hPost _ _ _ ⟨by unfold f_row; rw [if_neg (by rw [c8]; decide), if_neg h0, if_neg h1, if_neg h2, if_neg h3, if_neg h4, if_pos h5, hjc, show (1 : Int32) = nI 1 from rfl, nI_add], hX, KX.rf⟩
    have w6 : ¬ w = 0 → ¬ w = 1 → ¬ w = 2 → ¬ w = 3 → ¬ w = 4 → ¬ w = 5 → w = 6 → FV cX6_row 3 (some .int) yX6_row.cls yX6_row.name 6 0 0 Post 0 0 127 [some (.ref 0), some (.int (nI j)), some (.int w)] [] (lay D J) := by
      intro h0 h1 h2 h3 h4 h5 h6
      refine fv_aload_n (q := 128) dX6_row_127 rfl rfl ?_
      refine fl_getR (q := 131) dX6_row_128 fX6_20 sh0 rfl rfl ?_
      refine fv_iload_n (q := 132) dX6_row_131 rfl rfl ?_
      refine fl_callVi (As := [_]) (q := 135) dX6_row_132 gX6_125 rfl hb.ord rfl rfl (Nat.le_of_ble_eq_true rfl) rfl (by decide) (c_peersOf 1 len1 D J T n hT v hO j hj) ?_
      refine fv_iret dX6_row_135 rfl rfl (Nat.le_refl _) ?_
      exact hPost _ _ _ ⟨by unfold f_row; rw [if_neg (by rw [c8]; decide), if_neg h0, if_neg h1, if_neg h2, if_neg h3, if_neg h4, if_neg h5, if_pos h6, hjc], hX, KX.rf⟩
    have w7 : ¬ w = 0 → ¬ w = 1 → ¬ w = 2 → ¬ w = 3 → ¬ w = 4 → ¬ w = 5 → ¬ w = 6 → w = 7 → FV cX6_row 3 (some .int) yX6_row.cls yX6_row.name 6 0 0 Post 0 0 136 [some (.ref 0), some (.int (nI j)), some (.int w)] [] (lay D J) := by
      intro h0 h1 h2 h3 h4 h5 h6 h7
      refine fv_aload_n (q := 137) dX6_row_136 rfl rfl ?_
      refine fl_getR (q := 140) dX6_row_137 fX6_20 sh0 rfl rfl ?_
      refine fl_getR (q := 143) dX6_row_140 fX6_128 hb.ord rfl rfl ?_
      refine fv_iload_n (q := 144) dX6_row_143 rfl rfl ?_
      refine fl_iald (q := 145) _ dX6_row_144 hb.arr.2.1 (by decide) rfl (by omega) rfl ?_
      refine fv_top (hO.2.1 j hj) ?_
      refine fv_iret dX6_row_145 rfl rfl (Nat.le_refl _) ?_
      exact hPost _ _ _ ⟨by unfold f_row; rw [if_neg (by rw [c8]; decide), if_neg h0, if_neg h1, if_neg h2, if_neg h3, if_neg h4, if_neg h5, if_neg h6, if_pos h7, hjc], hX, KX.rf⟩
    have w8 : ¬ w = 0 → ¬ w = 1 → ¬ w = 2 → ¬ w = 3 → ¬ w = 4 → ¬ w = 5 → ¬ w = 6 → ¬ w = 7 → w = 8 → FV cX6_row 3 (some .int) yX6_row.cls yX6_row.name 6 0 0 Post 0 0 146 [some (.ref 0), some (.int (nI j)), some (.int w)] [] (lay D J) := by
      intro h0 h1 h2 h3 h4 h5 h6 h7 h8
      refine fv_aload_n (q := 147) dX6_row_146 rfl rfl ?_
      refine fv_iload_n (q := 148) dX6_row_147 rfl rfl ?_
      refine fl_callV (As := [_]) (q := 151) dX6_row_148 gX6_131 rfl sh0 rfl rfl (Nat.le_of_ble_eq_true rfl) rfl (by decide) (c_changed D J T n hT v hO j hj) (fun res D1 J1 hp => ?_)
      obtain ⟨rfl, rfl, hf⟩ := hp
      refine fv_iret dX6_row_151 rfl rfl (Nat.le_refl _) ?_
      exact hPost _ _ _ ⟨by unfold f_row; rw [if_neg (by rw [c8]; decide), if_neg h0, if_neg h1, if_neg h2, if_neg h3, if_neg h4, if_neg h5, if_neg h6, if_neg h7, if_pos h8, hjc], hX.of (fun a g1 g2 g3 g4 g5 => hf a ⟨g1, g2, g3, g4⟩), ⟨fun a ha => hf a (by omega), fun _ _ => rfl⟩⟩
    have wd : ¬ w = 0 → ¬ w = 1 → ¬ w = 2 → ¬ w = 3 → ¬ w = 4 → ¬ w = 5 → ¬ w = 6 → ¬ w = 7 → ¬ w = 8 → FV cX6_row 3 (some .int) yX6_row.cls yX6_row.name 6 0 0 Post 0 0 152 [some (.ref 0), some (.int (nI j)), some (.int w)] [] (lay D J) := by
      intro h0 h1 h2 h3 h4 h5 h6 h7 h8
      refine fv_ldc (q := 154) dX6_row_152 kX6_99 rfl ?_
      refine fv_iret dX6_row_154 rfl rfl (Nat.le_refl _) ?_
      exact hPost _ _ _ ⟨by unfold f_row; rw [if_neg (by rw [c8]; decide), if_neg h0, if_neg h1, if_neg h2, if_neg h3, if_neg h4, if_neg h5, if_neg h6, if_neg h7, if_neg h8], hX, KX.rf⟩
    by_cases h0 : w = 0
    · refine fv_top h0 ?_
      exact fv_tableIn 64 dX6_row_15 (by decide) (by decide) rfl (by decide) (w0 h0)
    · skip
      by_cases h1 : w = 1
      · refine fv_top h1 ?_
        exact fv_tableIn 74 dX6_row_15 (by decide) (by decide) rfl (by decide) (w1 h0 h1)
      · skip
        by_cases h2 : w = 2
        · refine fv_top h2 ?_
          exact fv_tableIn 84 dX6_row_15 (by decide) (by decide) rfl (by decide) (w2 h0 h1 h2)
        · skip
          by_cases h3 : w = 3
          · refine fv_top h3 ?_
            exact fv_tableIn 94 dX6_row_15 (by decide) (by decide) rfl (by decide) (w3 h0 h1 h2 h3)
          · skip
            by_cases h4 : w = 4
            · refine fv_top h4 ?_
              exact fv_tableIn 104 dX6_row_15 (by decide) (by decide) rfl (by decide) (w4 h0 h1 h2 h3 h4)
            · skip
              by_cases h5 : w = 5
              · refine fv_top h5 ?_
                exact fv_tableIn 115 dX6_row_15 (by decide) (by decide) rfl (by decide) (w5 h0 h1 h2 h3 h4 h5)
              · skip
                by_cases h6 : w = 6
                · refine fv_top h6 ?_
                  exact fv_tableIn 127 dX6_row_15 (by decide) (by decide) rfl (by decide) (w6 h0 h1 h2 h3 h4 h5 h6)
                · skip
                  by_cases h7 : w = 7
                  · refine fv_top h7 ?_
                    exact fv_tableIn 136 dX6_row_15 (by decide) (by decide) rfl (by decide) (w7 h0 h1 h2 h3 h4 h5 h6 h7)
                  · skip
                    by_cases h8 : w = 8
                    · refine fv_top h8 ?_
                      exact fv_tableIn 146 dX6_row_15 (by decide) (by decide) rfl (by decide) (w8 h0 h1 h2 h3 h4 h5 h6 h7 h8)
                    · skip
                      have k0 : (w).toInt ≠ 0 := fun z => h0 (by rw [fa_eq]; exact z)
                      have k1 : (w).toInt ≠ 1 := fun z => h1 (by rw [fa_eq]; exact z)
                      have k2 : (w).toInt ≠ 2 := fun z => h2 (by rw [fa_eq]; exact z)
                      have k3 : (w).toInt ≠ 3 := fun z => h3 (by rw [fa_eq]; exact z)
                      have k4 : (w).toInt ≠ 4 := fun z => h4 (by rw [fa_eq]; exact z)
                      have k5 : (w).toInt ≠ 5 := fun z => h5 (by rw [fa_eq]; exact z)
                      have k6 : (w).toInt ≠ 6 := fun z => h6 (by rw [fa_eq]; exact z)
                      have k7 : (w).toInt ≠ 7 := fun z => h7 (by rw [fa_eq]; exact z)
                      have k8 : (w).toInt ≠ 8 := fun z => h8 (by rw [fa_eq]; exact z)
                      exact fv_tableOut 152 dX6_row_15 (by omega) (by decide) (wd h0 h1 h2 h3 h4 h5 h6 h7 h8)
  · rw [bi_0] at c8
    refine fv_ldc (q := 13) dX6_row_11 kX6_104 rfl ?_
    refine fv_iret dX6_row_13 rfl rfl (Nat.le_refl _) ?_
    exact hPost _ _ _ ⟨by unfold f_row; rw [if_pos c8], hX, KX.rf⟩
set_option maxHeartbeats 4000000 in
set_option maxRecDepth 100000 in
theorem c_best (D : Nat → Nat → Int32) (J : Nat → Nat → Int64) (σ : Sg) (hX : XR D σ) (ok : SgOk σ) (w : Int32) : FD yX6_best cX6_best 7 (some .int) 5 [.ref 0, .int w] D J (fun res D' J' => res = some (.int (f_best σ w)) ∧ XR D' σ ∧ KX D D' J J') := by
  refine FD.of (by decide) rfl (Nat.le_of_ble_eq_true rfl) (fun Post hPost => ?_)
  show FV _ _ _ _ _ _ _ _ _ _ _ _ [_, _, _, _, _, _, _] [] _
  obtain ⟨T, n, P, I, B, s⟩ := σ
  have hT : TabOf D 3 T := hX.1
  have hO : OrdOf D 1 T n := hX.2.1
  have hH : HisOf D P := hX.2.2.1
  have hI : ImgOf D I := hX.2.2.2.1
  have hB : BookOf D B := hX.2.2.2.2.1
  have hs : D 0 9 = s := hX.2.2.2.2.2
  have v : VT T n := ok.1
  have h40 := v.2.1
  have hn : D 3 3 = nI n := hT.n v
  have hb := len1
  have loop : wth w 0 8 = true → ∀ i, i ≤ n → ∀ (l5 l6 : Option Value) (E : Nat → Nat → Int32), (∀ a, a ≠ 1 → a ≠ 1 + 10 → a ≠ 1 + 11 → E a = D a) → FV cX6_best 7 (some .int) yX6_best.cls yX6_best.name 5 0 0 Post 0 0 18 [some (.ref 0), some (.int w), some (.int (bst T n w i).1), some (.int (bst T n w i).2), some (.int (nI i)), l5, l6] [] (lay E J) := by
    intro hw8
    refine up_ind (fun i hi ih => ?_)
    intro l5 l6 E hf
    have hTE : TabOf E 3 T := hT.of (hf _ (by decide) (by decide) (by decide)) (hf _ (by decide) (by decide) (by decide)) (hf _ (by decide) (by decide) (by decide)) (hf _ (by decide) (by decide) (by decide))
    have hOE : OrdOf E 1 T n := hO.of (hf _ (by decide) (by decide) (by decide)) (hf _ (by decide) (by decide) (by decide)) (hf _ (by decide) (by decide) (by decide)) (hf _ (by decide) (by decide) (by decide))
    refine fv_iload (q := 20) dX6_best_18 rfl rfl ?_
    refine fv_aload_n (q := 21) dX6_best_20 rfl rfl ?_
    refine fl_getR (q := 24) dX6_best_21 fX6_27 sh0 rfl rfl ?_
    refine fl_getI (q := 27) dX6_best_24 fX6_62 hb.tab.sh.1 rfl rfl ?_
    refine fv_top (hTE.n v) ?_
    refine fv_icmp_ge (q := 30) 76 dX6_best_27 (by decide) rfl (fun c27 => ?_) (fun c27 => ?_)
    · rw [nI_leI (by omega) (by omega)] at c27
      have hin : i = n := by omega
      subst hin
      refine fv_iload_n (q := 77) dX6_best_76 rfl rfl ?_
      refine fv_iret dX6_best_77 rfl rfl (Nat.le_refl _) ?_
      exact hPost _ _ _ ⟨by unfold f_best; rw [if_neg (by rw [hw8]; decide)], hX.len hf, KX.of hf⟩
    · rw [nI_leI (by omega) (by omega)] at c27
      refine fv_aload_n (q := 31) dX6_best_30 rfl rfl ?_
      refine fl_getR (q := 34) dX6_best_31 fX6_10 sh0 rfl rfl ?_
      refine fv_iload (q := 36) dX6_best_34 rfl rfl ?_
      refine fv_iload_n (q := 37) dX6_best_36 rfl rfl ?_
      refine fl_callV (As := [_, _]) (q := 40) dX6_best_37 gX6_190 rfl hb.len rfl rfl (Nat.le_of_ble_eq_true rfl) rfl (by decide) (c_answer 1 len1 E J T n hTE v hOE i (by omega) w) (fun res D1 J1 hp => ?_)
      obtain ⟨rfl, rfl, hf2⟩ := hp
      refine fv_istore (q := 42) (l' := [_, _, _, _, _, _, _]) dX6_best_40 (by decide) rfl rfl rfl ?_
      refine fv_iload (q := 44) dX6_best_42 rfl rfl ?_
      refine fv_ldc (q := 46) dX6_best_44 kX6_209 rfl ?_
      refine fv_icmp_ne (q := 49) 54 dX6_best_46 (by decide) rfl (fun c46 => ?_) (fun c46 => ?_)
      · refine fv_iload (q := 56) dX6_best_54 rfl rfl ?_
        refine fv_istore (q := 58) (l' := [_, _, _, _, _, _, _]) dX6_best_56 (by decide) rfl rfl rfl ?_
        refine fv_iload (q := 60) dX6_best_58 rfl rfl ?_
        refine fv_iload_n (q := 61) dX6_best_60 rfl rfl ?_
        refine fv_icmp_le (q := 64) 70 dX6_best_61 (by decide) rfl (fun c61 => ?_) (fun c61 => ?_)
        · refine fv_iinc (v := _ + 1) (q := 73) (l' := [_, _, _, _, _, _, _]) dX6_best_70 rfl rfl (by decide) rfl rfl rfl ?_
          refine fv_goto 18 dX6_best_73 (by decide) ?_
          have hw : wgt (ans T n i w) = ans T n i w := by unfold wgt; rw [if_neg c46]
          have hb9 : bst T n w (i + 1) = bst T n w i := by rw [bst, hw, if_neg (Int32.not_lt.mpr c61)]
          have h9 := fun l5 l6 => ih (by omega) l5 l6 D1 (fun a g0 g1 g2 => by rw [hf2 a g0 g1 g2]; exact hf a g0 g1 g2)
          rw [hb9] at h9
          rw [nI_1]
          exact h9 _ _
        · refine fv_iload (q := 66) dX6_best_64 rfl rfl ?_
          refine fv_istore_n (i := 3) (q := 67) (l' := [_, _, _, _, _, _, _]) dX6_best_66 rfl (by decide) rfl rfl rfl ?_
          refine fv_iload (q := 69) dX6_best_67 rfl rfl ?_
          refine fv_istore_n (i := 2) (q := 70) (l' := [_, _, _, _, _, _, _]) dX6_best_69 rfl (by decide) rfl rfl rfl ?_
          refine fv_iinc (v := _ + 1) (q := 73) (l' := [_, _, _, _, _, _, _]) dX6_best_70 rfl rfl (by decide) rfl rfl rfl ?_
          refine fv_goto 18 dX6_best_73 (by decide) ?_
          have hw : wgt (ans T n i w) = ans T n i w := by unfold wgt; rw [if_neg c46]
          have hb9 : bst T n w (i + 1) = (nI i, wgt (ans T n i w)) := by rw [bst, hw, if_pos (Int32.not_le.mp c61)]
          have h9 := fun l5 l6 => ih (by omega) l5 l6 D1 (fun a g0 g1 g2 => by rw [hf2 a g0 g1 g2]; exact hf a g0 g1 g2)
          rw [hb9, hw] at h9
          rw [nI_1]
          exact h9 _ _
      · refine fv_ldc (q := 51) dX6_best_49 kX6_210 rfl ?_
        refine fv_goto 56 dX6_best_51 (by decide) ?_
        refine fv_istore (q := 58) (l' := [_, _, _, _, _, _, _]) dX6_best_56 (by decide) rfl rfl rfl ?_
        refine fv_iload (q := 60) dX6_best_58 rfl rfl ?_
        refine fv_iload_n (q := 61) dX6_best_60 rfl rfl ?_
        refine fv_icmp_le (q := 64) 70 dX6_best_61 (by decide) rfl (fun c61 => ?_) (fun c61 => ?_)
        · refine fv_iinc (v := _ + 1) (q := 73) (l' := [_, _, _, _, _, _, _]) dX6_best_70 rfl rfl (by decide) rfl rfl rfl ?_
          refine fv_goto 18 dX6_best_73 (by decide) ?_
          have hw : wgt (ans T n i w) = -1000000 := by unfold wgt; rw [if_pos c46]
          have hb9 : bst T n w (i + 1) = bst T n w i := by rw [bst, hw, if_neg (Int32.not_lt.mpr c61)]
          have h9 := fun l5 l6 => ih (by omega) l5 l6 D1 (fun a g0 g1 g2 => by rw [hf2 a g0 g1 g2]; exact hf a g0 g1 g2)
          rw [hb9] at h9
          rw [nI_1]
          exact h9 _ _
        · refine fv_iload (q := 66) dX6_best_64 rfl rfl ?_
          refine fv_istore_n (i := 3) (q := 67) (l' := [_, _, _, _, _, _, _]) dX6_best_66 rfl (by decide) rfl rfl rfl ?_
          refine fv_iload (q := 69) dX6_best_67 rfl rfl ?_
          refine fv_istore_n (i := 2) (q := 70) (l' := [_, _, _, _, _, _, _]) dX6_best_69 rfl (by decide) rfl rfl rfl ?_
          refine fv_iinc (v := _ + 1) (q := 73) (l' := [_, _, _, _, _, _, _]) dX6_best_70 rfl rfl (by decide) rfl rfl rfl ?_
          refine fv_goto 18 dX6_best_73 (by decide) ?_
          have hw : wgt (ans T n i w) = -1000000 := by unfold wgt; rw [if_pos c46]
          have hb9 : bst T n w (i + 1) = (nI i, wgt (ans T n i w)) := by rw [bst, hw, if_pos (Int32.not_le.mp c61)]
          have h9 := fun l5 l6 => ih (by omega) l5 l6 D1 (fun a g0 g1 g2 => by rw [hf2 a g0 g1 g2]; exact hf a g0 g1 g2)
          rw [hb9, hw] at h9
          rw [nI_1]
          exact h9 _ _
  refine fv_iload_n (q := 1) dX6_best_0 rfl rfl ?_
  refine fl_callSi (As := [_]) (q := 4) dX6_best_1 gX6_187 rfl rfl (Nat.le_of_ble_eq_true rfl) rfl (by decide) (c_isOfFrame D J w) ?_
  refine fv_if_ne (q := 7) 10 dX6_best_4 (by decide) rfl (fun c4 => ?_) (fun c4 => ?_)
  · rw [bi_n'] at c4
    refine fv_iconst (v := (-1)) (q := 11) dX6_best_10 (by decide) rfl ?_
    refine fv_istore_n (i := 2) (q := 12) (l' := [_, _, _, _, _, _, _]) dX6_best_11 rfl (by decide) rfl rfl rfl ?_
    refine fv_ldc (q := 14) dX6_best_12 kX6_208 rfl ?_
    refine fv_istore_n (i := 3) (q := 15) (l' := [_, _, _, _, _, _, _]) dX6_best_14 rfl (by decide) rfl rfl rfl ?_
    refine fv_iconst (v := 0) (q := 16) dX6_best_15 (by decide) rfl ?_
    refine fv_istore (q := 18) (l' := [_, _, _, _, _, _, _]) dX6_best_16 (by decide) rfl rfl rfl ?_
    exact loop c4 0 (Nat.zero_le _) _ _ D (fun _ _ _ _ => rfl)
  · rw [bi_0] at c4
    refine fv_ldc (q := 9) dX6_best_7 kX6_99 rfl ?_
    refine fv_iret dX6_best_9 rfl rfl (Nat.le_refl _) ?_
    exact hPost _ _ _ ⟨by unfold f_best; rw [if_pos c4], hX, KX.rf⟩
