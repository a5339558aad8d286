/-! the model: what it holds; its questions -/
def PastM (D : Nat → Nat → Int32) (P : List (Nat → Int32)) : Prop := D 124 3 = nI P.length ∧ P.length ≤ 20 ∧ ∀ (j : Nat) (U : Nat → Int32), P[j]? = some U → ∀ x, x < 126 → D 127 (126 * (P.length - 1 - j) + x) = U x
def ImgM (D : Nat → Nat → Int32) (I : Nat → Option ((Nat → Int32) × Int32)) : Prop := ∀ i, i < 2 → (I i = none → D 129 i = 0) ∧ ∀ q, I i = some q → D 129 i = 1 ∧ (∀ x, x < 126 → D 128 (127 * i + x) = q.1 x) ∧ D 128 (127 * i + 126) = q.2
def MR (D : Nat → Nat → Int32) (σ : Sg) : Prop := MT D 125 σ.1 ∧ PastM D σ.2.2.1 ∧ ImgM D σ.2.2.2.1 ∧ BookM D σ.2.2.2.2.1 ∧ D 124 6 = σ.2.2.2.2.2
def KM (D D' : Nat → Nat → Int32) (J J' : Nat → Nat → Int64) : Prop := (∀ a, a < 124 → D' a = D a) ∧ ∀ a, a < 124 → J' a = J a
theorem KM.rf {D : Nat → Nat → Int32} {J : Nat → Nat → Int64} : KM D D J J := ⟨fun _ _ => rfl, fun _ _ => rfl⟩
theorem PastM.of {D D' : Nat → Nat → Int32} {P : List (Nat → Int32)} (h : PastM D P) (h0 : D' 124 3 = D 124 3) (h1 : D' 127 = D 127) : PastM D' P := by
  unfold PastM; rw [h0, h1]; exact h
theorem ImgM.of {D D' : Nat → Nat → Int32} {I : Nat → Option ((Nat → Int32) × Int32)} (h : ImgM D I) (h0 : D' 129 = D 129) (h1 : D' 128 = D 128) : ImgM D' I := by
  unfold ImgM; rw [h0, h1]; exact h
theorem KR.mr {D E : Nat → Nat → Int32} {σ : Sg} (h : KR D E) (hX : MR D σ) : MR E σ :=
  ⟨h.mt hX.1, hX.2.1.of (h.1 3 (by decide)) (h.2 127 (by decide)), hX.2.2.1.of (h.2 129 (by decide)) (h.2 128 (by decide)), hX.2.2.2.1.of (h.1 8 (by decide)) (h.2 130 (by decide)), (h.1 6 (by decide)).trans hX.2.2.2.2⟩
theorem KR.km {D E : Nat → Nat → Int32} {J J' : Nat → Nat → Int64} (h : KR D E) (hJ : ∀ a, a < 124 → J' a = J a) : KM D E J J' := ⟨fun a ha => h.2 a (Or.inl ha), hJ⟩
theorem KR.kj {D E : Nat → Nat → Int32} {J : Nat → Nat → Int64} (h : KR D E) : KM D E J J := h.km (fun _ _ => rfl)
set_option maxHeartbeats 4000000 in
set_option maxRecDepth 100000 in
theorem m_told (D : Nat → Nat → Int32) (J : Nat → Nat → Int64) (σ : Sg) (hX : MR D σ) (ok : SgOk σ) (w : Int32) : FD yX7_told cX7_told 2 (some .int) 6 [.ref 124, .int w] D J (fun res D' J' => res = some (.int (f_told σ w)) ∧ MR D' σ ∧ KM D D' J J') := by
  refine FD.of (by decide) rfl (Nat.le_of_ble_eq_true rfl) (fun Post hPost => ?_)
  show FV _ _ _ _ _ _ _ _ _ _ _ _ [_, _] [] _
  obtain ⟨T, n, P, I, B, s⟩ := σ
  have hM : MT D 125 T := hX.1
  have hP : PastM D P := hX.2.1
  have hI : ImgM D I := hX.2.2.1
  have hB : BookM D B := hX.2.2.2.1
  have hs : D 124 6 = s := hX.2.2.2.2
  have v : VT T n := ok.1
  have h40 := v.2.1
  refine fv_aload_n (q := 1) dX7_told_0 rfl rfl ?_
  refine fv_aload_n (q := 2) dX7_told_1 rfl rfl ?_
  refine fl_getR (q := 5) dX7_told_2 fX7_7 sh124 rfl rfl ?_
  refine fl_callV (As := [_]) (q := 8) dX7_told_5 gX7_139 rfl sh124 rfl rfl (Nat.le_of_ble_eq_true rfl) rfl (by decide) (m_stands 125 sh125 D _ T hM n v (by decide)) (fun res D1 J1 hp => ?_)
  obtain ⟨rfl, rfl, hL, hf1⟩ := hp
  have hR1 := KR.st hf1
  have hM1 := hR1.mt hM
  refine fv_iload_n (q := 9) dX7_told_8 rfl rfl ?_
  have w0 : w = 0 → FV cX7_told 2 (some .int) yX7_told.cls yX7_told.name 6 0 0 Post 0 0 72 [some (.ref 124), some (.int w)] [] (lay D1 J1) := by
    intro h0
    refine fv_aload_n (q := 73) dX7_told_72 rfl rfl ?_
    refine fl_getR (q := 76) dX7_told_73 fX7_7 sh124 rfl rfl ?_
    refine fv_iconst (v := 0) (q := 77) dX7_told_76 (by decide) rfl ?_
    refine fl_iald (q := 78) 0 dX7_told_77 sh125 (by decide) rfl (by decide) rfl ?_
    refine fv_top (y := nI n) ((hM1 0 (by decide)).trans v.1) ?_
    refine fv_iret dX7_told_78 rfl rfl (Nat.le_refl _) ?_
    exact hPost _ _ _ ⟨by unfold f_told; rw [if_pos h0], hR1.mr hX, hR1.kj⟩
  have w1 : ¬ w = 0 → w = 1 → FV cX7_told 2 (some .int) yX7_told.cls yX7_told.name 6 0 0 Post 0 0 79 [some (.ref 124), some (.int w)] [] (lay D1 J1) := by
    intro h0 h1
    refine fv_aload_n (q := 80) dX7_told_79 rfl rfl ?_
    refine fl_callVi (As := []) (q := 83) dX7_told_80 gX7_142 rfl sh124 rfl rfl (Nat.le_of_ble_eq_true rfl) rfl (by decide) (m_partsNow D1 J1 T n hM1 v) ?_
    refine fv_iret dX7_told_83 rfl rfl (Nat.le_refl _) ?_
    exact hPost _ _ _ ⟨by unfold f_told; rw [if_neg h0, if_pos h1], hR1.mr hX, hR1.kj⟩
  have w2 : ¬ w = 0 → ¬ w = 1 → w = 2 → FV cX7_told 2 (some .int) yX7_told.cls yX7_told.name 6 0 0 Post 0 0 84 [some (.ref 124), some (.int w)] [] (lay D1 J1) := by
    intro h0 h1 h2
    refine fv_aload_n (q := 85) dX7_told_84 rfl rfl ?_
    refine fl_callVi (As := []) (q := 88) dX7_told_85 gX7_145 rfl sh124 rfl rfl (Nat.le_of_ble_eq_true rfl) rfl (by decide) (m_groupsNow D1 J1 T n hM1 v hL) ?_
    refine fv_iret dX7_told_88 rfl rfl (Nat.le_refl _) ?_
    exact hPost _ _ _ ⟨by unfold f_told; rw [if_neg h0, if_neg h1, if_pos h2], hR1.mr hX, hR1.kj⟩
  have w3 : ¬ w = 0 → ¬ w = 1 → ¬ w = 2 → w = 3 → FV cX7_told 2 (some .int) yX7_told.cls yX7_told.name 6 0 0 Post 0 0 89 [some (.ref 124), some (.int w)] [] (lay D1 J1) := by
    intro h0 h1 h2 h3
    refine fv_aload_n (q := 90) dX7_told_89 rfl rfl ?_
    refine fl_getR (q := 93) dX7_told_90 fX7_7 sh124 rfl rfl ?_
    refine fv_iconst (v := 1) (q := 94) dX7_told_93 (by decide) rfl ?_
    refine fl_iald (q := 95) 1 dX7_told_94 sh125 (by decide) rfl (by decide) rfl ?_
    refine fv_top (y := T 1) (hM1 1 (by decide)) ?_
    refine fv_iret dX7_told_95 rfl rfl (Nat.le_refl _) ?_
    exact hPost _ _ _ ⟨by unfold f_told; rw [if_neg h0, if_neg h1, if_neg h2, if_pos h3], hR1.mr hX, hR1.kj⟩
  have w4 : ¬ w = 0 → ¬ w = 1 → ¬ w = 2 → ¬ w = 3 → w = 4 → FV cX7_told 2 (some .int) yX7_told.cls yX7_told.name 6 0 0 Post 0 0 96 [some (.ref 124), some (.int w)] [] (lay D1 J1) := by
    intro h0 h1 h2 h3 h4
    refine fv_aload_n (q := 97) dX7_told_96 rfl rfl ?_
    refine fl_getR (q := 100) dX7_told_97 fX7_7 sh124 rfl rfl ?_
    refine fv_iconst (v := 2) (q := 101) dX7_told_100 (by decide) rfl ?_
    refine fl_iald (q := 102) 2 dX7_told_101 sh125 (by decide) rfl (by decide) rfl ?_
    refine fv_top (y := T 2) (hM1 2 (by decide)) ?_
    refine fv_bipush (v := 100) (q := 104) dX7_told_102 (by decide) rfl ?_
    refine fv_iadd (q := 105) dX7_told_104 rfl ?_
    refine fv_iret dX7_told_105 rfl rfl (Nat.le_refl _) ?_
    exact hPost _ _ _ ⟨by unfold f_told; rw [if_neg h0, if_neg h1, if_neg h2, if_neg h3, if_pos h4], hR1.mr hX, hR1.kj⟩
  have w5 : ¬ w = 0 → ¬ w = 1 → ¬ w = 2 → ¬ w = 3 → ¬ w = 4 → w = 5 → FV cX7_told 2 (some .int) yX7_told.cls yX7_told.name 6 0 0 Post 0 0 106 [some (.ref 124), some (.int w)] [] (lay D1 J1) := by
    intro h0 h1 h2 h3 h4 h5
    refine fv_aload_n (q := 107) dX7_told_106 rfl rfl ?_
    refine fl_getR (q := 110) dX7_told_107 fX7_7 sh124 rfl rfl ?_
    refine fv_iconst (v := 3) (q := 111) dX7_told_110 (by decide) rfl ?_
    refine fl_iald (q := 112) 3 dX7_told_111 sh125 (by decide) rfl (by decide) rfl ?_
    refine fv_top (y := T 3) (hM1 3 (by decide)) ?_
    refine fv_bipush (v := 100) (q := 114) dX7_told_112 (by decide) rfl ?_
    refine fv_iadd (q := 115) dX7_told_114 rfl ?_
    refine fv_iret dX7_told_115 rfl rfl (Nat.le_refl _) ?_
    exact hPost _ _ _ ⟨by unfold f_told; rw [if_neg h0, if_neg h1, if_neg h2, if_neg h3, if_neg h4, if_pos h5], hR1.mr hX, hR1.kj⟩
  have w6 : ¬ w = 0 → ¬ w = 1 → ¬ w = 2 → ¬ w = 3 → ¬ w = 4 → ¬ w = 5 → w = 6 → FV cX7_told 2 (some .int) yX7_told.cls yX7_told.name 6 0 0 Post 0 0 116 [some (.ref 124), some (.int w)] [] (lay D1 J1) := by
    intro h0 h1 h2 h3 h4 h5 h6
    refine fv_aload_n (q := 117) dX7_told_116 rfl rfl ?_
    refine fl_getR (q := 120) dX7_told_117 fX7_7 sh124 rfl rfl ?_
    refine fv_iconst (v := 4) (q := 121) dX7_told_120 (by decide) rfl ?_
    refine fl_iald (q := 122) 4 dX7_told_121 sh125 (by decide) rfl (by decide) rfl ?_
    refine fv_top (y := T 4) (hM1 4 (by decide)) ?_
    refine fv_iret dX7_told_122 rfl rfl (Nat.le_refl _) ?_
    exact hPost _ _ _ ⟨by unfold f_told; rw [if_neg h0, if_neg h1, if_neg h2, if_neg h3, if_neg h4, if_neg h5, if_pos h6], hR1.mr hX, hR1.kj⟩
  have w7 : ¬ w = 0 → ¬ w = 1 → ¬ w = 2 → ¬ w = 3 → ¬ w = 4 → ¬ w = 5 → ¬ w = 6 → w = 7 → FV cX7_told 2 (some .int) yX7_told.cls yX7_told.name 6 0 0 Post 0 0 123 [some (.ref 124), some (.int w)] [] (lay D1 J1) := by
    intro h0 h1 h2 h3 h4 h5 h6 h7
    refine fv_aload_n (q := 124) dX7_told_123 rfl rfl ?_
    refine fl_getR (q := 127) dX7_told_124 fX7_7 sh124 rfl rfl ?_
    refine fv_iconst (v := 5) (q := 128) dX7_told_127 (by decide) rfl ?_
    refine fl_iald (q := 129) 5 dX7_told_128 sh125 (by decide) rfl (by decide) rfl ?_
    refine fv_top (y := T 5) (hM1 5 (by decide)) ?_
    refine fv_iret dX7_told_129 rfl rfl (Nat.le_refl _) ?_
    exact hPost _ _ _ ⟨by unfold f_told; rw [if_neg h0, if_neg h1, if_neg h2, if_neg h3, if_neg h4, if_neg h5, if_neg h6, if_pos h7], hR1.mr hX, hR1.kj⟩
  have w8 : ¬ w = 0 → ¬ w = 1 → ¬ w = 2 → ¬ w = 3 → ¬ w = 4 → ¬ w = 5 → ¬ w = 6 → ¬ w = 7 → w = 8 → FV cX7_told 2 (some .int) yX7_told.cls yX7_told.name 6 0 0 Post 0 0 130 [some (.ref 124), some (.int w)] [] (lay D1 J1) := by
    intro h0 h1 h2 h3 h4 h5 h6 h7 h8
    refine fv_aload_n (q := 131) dX7_told_130 rfl rfl ?_
    refine fl_callV (As := []) (q := 134) dX7_told_131 gX7_148 rfl sh124 rfl rfl (Nat.le_of_ble_eq_true rfl) rfl (by decide) (m_alikes D1 J1 T n hM1 v hL) (fun res D2 J2 hp => ?_)
    obtain ⟨rfl, hK2, hJ2⟩ := hp
    refine fv_iret dX7_told_134 rfl rfl (Nat.le_refl _) ?_
    exact hPost _ _ _ ⟨by unfold f_told; rw [if_neg h0, if_neg h1, if_neg h2, if_neg h3, if_neg h4, if_neg h5, if_neg h6, if_neg h7, if_pos h8], (hR1.tr hK2.kr).mr hX, (hR1.tr hK2.kr).km (fun a ha => hJ2 a (by omega))⟩
  have w9 : ¬ w = 0 → ¬ w = 1 → ¬ w = 2 → ¬ w = 3 → ¬ w = 4 → ¬ w = 5 → ¬ w = 6 → ¬ w = 7 → ¬ w = 8 → w = 9 → FV cX7_told 2 (some .int) yX7_told.cls yX7_told.name 6 0 0 Post 0 0 135 [some (.ref 124), some (.int w)] [] (lay D1 J1) := by
    intro h0 h1 h2 h3 h4 h5 h6 h7 h8 h9
    refine fv_aload_n (q := 136) dX7_told_135 rfl rfl ?_
    refine fl_getI (q := 139) dX7_told_136 fX7_128 sh124 rfl rfl ?_
    refine fv_top (y := nI B.length) ((hR1.1 8 (by decide)).trans hB.1) ?_
    refine fv_iret dX7_told_139 rfl rfl (Nat.le_refl _) ?_
    exact hPost _ _ _ ⟨by unfold f_told; rw [if_neg h0, if_neg h1, if_neg h2, if_neg h3, if_neg h4, if_neg h5, if_neg h6, if_neg h7, if_neg h8, if_pos h9], hR1.mr hX, hR1.kj⟩
  have w10 : ¬ w = 0 → ¬ w = 1 → ¬ w = 2 → ¬ w = 3 → ¬ w = 4 → ¬ w = 5 → ¬ w = 6 → ¬ w = 7 → ¬ w = 8 → ¬ w = 9 → w = 10 → FV cX7_told 2 (some .int) yX7_told.cls yX7_told.name 6 0 0 Post 0 0 140 [some (.ref 124), some (.int w)] [] (lay D1 J1) := by
    intro h0 h1 h2 h3 h4 h5 h6 h7 h8 h9 h10
    refine fv_aload_n (q := 141) dX7_told_140 rfl rfl ?_
    refine fl_callV (As := []) (q := 144) dX7_told_141 gX7_151 rfl sh124 rfl rfl (Nat.le_of_ble_eq_true rfl) rfl (by decide) (m_wrong D1 J1 T n hM1 v hL B (hB.of (hR1.1 8 (by decide)) (hR1.2 130 (by decide)))) (fun res D2 J2 hp => ?_)
    obtain ⟨rfl, rfl, hK2⟩ := hp
    refine fv_iret dX7_told_144 rfl rfl (Nat.le_refl _) ?_
    exact hPost _ _ _ ⟨by unfold f_told; rw [if_neg h0, if_neg h1, if_neg h2, if_neg h3, if_neg h4, if_neg h5, if_neg h6, if_neg h7, if_neg h8, if_neg h9, if_pos h10], (hR1.tr hK2.kr).mr hX, (hR1.tr hK2.kr).kj⟩
  have w11 : ¬ w = 0 → ¬ w = 1 → ¬ w = 2 → ¬ w = 3 → ¬ w = 4 → ¬ w = 5 → ¬ w = 6 → ¬ w = 7 → ¬ w = 8 → ¬ w = 9 → ¬ w = 10 → w = 11 → FV cX7_told 2 (some .int) yX7_told.cls yX7_told.name 6 0 0 Post 0 0 145 [some (.ref 124), some (.int w)] [] (lay D1 J1) := by
    intro h0 h1 h2 h3 h4 h5 h6 h7 h8 h9 h10 h11
    refine fv_aload_n (q := 146) dX7_told_145 rfl rfl ?_
    refine fl_getI (q := 149) dX7_told_146 fX7_154 sh124 rfl rfl ?_
    refine fv_top (y := nI P.length) ((hR1.1 3 (by decide)).trans hP.1) ?_
    refine fv_iret dX7_told_149 rfl rfl (Nat.le_refl _) ?_
    exact hPost _ _ _ ⟨by unfold f_told; rw [if_neg h0, if_neg h1, if_neg h2, if_neg h3, if_neg h4, if_neg h5, if_neg h6, if_neg h7, if_neg h8, if_neg h9, if_neg h10, if_pos h11], hR1.mr hX, hR1.kj⟩
  have wd : ¬ w = 0 → ¬ w = 1 → ¬ w = 2 → ¬ w = 3 → ¬ w = 4 → ¬ w = 5 → ¬ w = 6 → ¬ w = 7 → ¬ w = 8 → ¬ w = 9 → ¬ w = 10 → ¬ w = 11 → FV cX7_told 2 (some .int) yX7_told.cls yX7_told.name 6 0 0 Post 0 0 150 [some (.ref 124), some (.int w)] [] (lay D1 J1) := by
    intro h0 h1 h2 h3 h4 h5 h6 h7 h8 h9 h10 h11
    refine fv_ldc (q := 152) dX7_told_150 kX7_157 rfl ?_
    refine fv_iret dX7_told_152 rfl rfl (Nat.le_refl _) ?_
    exact hPost _ _ _ ⟨by unfold f_told; rw [if_neg h0, if_neg h1, if_neg h2, if_neg h3, if_neg h4, if_neg h5, if_neg h6, if_neg h7, if_neg h8, if_neg h9, if_neg h10, if_neg h11], hR1.mr hX, hR1.kj⟩
  by_cases h0 : w = 0
  · refine fv_top h0 ?_
    exact fv_tableIn 72 dX7_told_9 (by decide) (by decide) rfl (by decide) (w0 h0)
  · skip
    by_cases h1 : w = 1
    · refine fv_top h1 ?_
      exact fv_tableIn 79 dX7_told_9 (by decide) (by decide) rfl (by decide) (w1 h0 h1)
    · skip
      by_cases h2 : w = 2
      · refine fv_top h2 ?_
        exact fv_tableIn 84 dX7_told_9 (by decide) (by decide) rfl (by decide) (w2 h0 h1 h2)
      · skip
        by_cases h3 : w = 3
        · refine fv_top h3 ?_
          exact fv_tableIn 89 dX7_told_9 (by decide) (by decide) rfl (by decide) (w3 h0 h1 h2 h3)
        · skip
          by_cases h4 : w = 4
          · refine fv_top h4 ?_
            exact fv_tableIn 96 dX7_told_9 (by decide) (by decide) rfl (by decide) (w4 h0 h1 h2 h3 h4)
          · skip
            by_cases h5 : w = 5
            · refine fv_top h5 ?_
              exact fv_tableIn 106 dX7_told_9 (by decide) (by decide) rfl (by decide) (w5 h0 h1 h2 h3 h4 h5)
            · skip
              by_cases h6 : w = 6
              · refine fv_top h6 ?_
                exact fv_tableIn 116 dX7_told_9 (by decide) (by decide) rfl (by decide) (w6 h0 h1 h2 h3 h4 h5 h6)
              · skip
                by_cases h7 : w = 7
                · refine fv_top h7 ?_
                  exact fv_tableIn 123 dX7_told_9 (by decide) (by decide) rfl (by decide) (w7 h0 h1 h2 h3 h4 h5 h6 h7)
                · skip
                  by_cases h8 : w = 8
                  · refine fv_top h8 ?_
                    exact fv_tableIn 130 dX7_told_9 (by decide) (by decide) rfl (by decide) (w8 h0 h1 h2 h3 h4 h5 h6 h7 h8)
                  · skip
                    by_cases h9 : w = 9
                    · refine fv_top h9 ?_
                      exact fv_tableIn 135 dX7_told_9 (by decide) (by decide) rfl (by decide) (w9 h0 h1 h2 h3 h4 h5 h6 h7 h8 h9)
                    · skip
                      by_cases h10 : w = 10
                      · refine fv_top h10 ?_
                        exact fv_tableIn 140 dX7_told_9 (by decide) (by decide) rfl (by decide) (w10 h0 h1 h2 h3 h4 h5 h6 h7 h8 h9 h10)
                      · skip
                        by_cases h11 : w = 11
                        · refine fv_top h11 ?_
                          exact fv_tableIn 145 dX7_told_9 (by decide) (by decide) rfl (by decide) (w11 h0 h1 h2 h3 h4 h5 h6 h7 h8 h9 h10 h11)
                        · skip
                          have k0 : (w).toInt ≠ 0 := fun z => h0 (by rw [fa_eq]; exact z)
                          have k1 : (w).toInt ≠ 1 := fun z => h1 (by rw [fa_eq]; exact z)
                          have k2 : (w).toInt ≠ 2 := fun z => h2 (by rw [fa_eq]; exact z)
                          have k3 : (w).toInt ≠ 3 := fun z => h3 (by rw [fa_eq]; exact z)
                          have k4 : (w).toInt ≠ 4 := fun z => h4 (by rw [fa_eq]; exact z)
                          have k5 : (w).toInt ≠ 5 := fun z => h5 (by rw [fa_eq]; exact z)
                          have k6 : (w).toInt ≠ 6 := fun z => h6 (by rw [fa_eq]; exact z)
                          have k7 : (w).toInt ≠ 7 := fun z => h7 (by rw [fa_eq]; exact z)
                          have k8 : (w).toInt ≠ 8 := fun z => h8 (by rw [fa_eq]; exact z)
                          have k9 : (w).toInt ≠ 9 := fun z => h9 (by rw [fa_eq]; exact z)
                          have k10 : (w).toInt ≠ 10 := fun z => h10 (by rw [fa_eq]; exact z)
                          have k11 : (w).toInt ≠ 11 := fun z => h11 (by rw [fa_eq]; exact z)
                          exact fv_tableOut 150 dX7_told_9 (by omega) (by decide) (wd h0 h1 h2 h3 h4 h5 h6 h7 h8 h9 h10 h11)
def drP (T : Nat → Int32) (r e : Nat) : Nat → Int32 := fun x => if (6 + r ≤ x ∧ x < 6 + e) ∨ (46 + r ≤ x ∧ x < 46 + e) ∨ (86 + r ≤ x ∧ x < 86 + e) then T (x + 1) else T x
theorem drP_0 (T : Nat → Int32) (r x : Nat) : drP T r r x = T x := by unfold drP; rw [if_neg (by omega)]
theorem drP_o {T : Nat → Int32} {r e x : Nat} (h : ¬ ((6 + r ≤ x ∧ x < 6 + e) ∨ (46 + r ≤ x ∧ x < 46 + e) ∨ (86 + r ≤ x ∧ x < 86 + e))) : drP T r e x = T x := by unfold drP; rw [if_neg h]
theorem drP_s {T f : Nat → Int32} {r e : Nat} (h : ∀ x, x < 126 → f x = drP T r e x) (he : e + 1 < 40) (hr : r ≤ e) : ∀ x, x < 126 → upd (upd (upd f (6 + e) (T (6 + e + 1))) (46 + e) (T (46 + e + 1))) (86 + e) (T (86 + e + 1)) x = drP T r (e + 1) x := by
  intro x hx
  by_cases a : x = 86 + e
  · subst a; rw [pk_us]; unfold drP; rw [if_pos (by omega)]
  · rw [pk_un a]
    by_cases b : x = 46 + e
    · subst b; rw [pk_us]; unfold drP; rw [if_pos (by omega)]
    · rw [pk_un b]
      by_cases c : x = 6 + e
      · subst c; rw [pk_us]; unfold drP; rw [if_pos (by omega)]
      · rw [pk_un c, h x hx]
        unfold drP
        by_cases g : (6 + r ≤ x ∧ x < 6 + e) ∨ (46 + r ≤ x ∧ x < 46 + e) ∨ (86 + r ≤ x ∧ x < 86 + e)
        · rw [if_pos g, if_pos (by omega)]
        · rw [if_neg g, if_neg (by omega)]
theorem drP_e {T f : Nat → Int32} {n r : Nat} (h : ∀ x, x < 126 → f x = drP T r (n - 1) x) (hr : r < n) (hn : n ≤ 40) : ∀ x, x < 126 → upd f 0 (nI (n - 1)) x = dropT T n r x := by
  intro x hx
  unfold dropT
  by_cases a : x = 0
  · subst a; rw [pk_us, if_pos rfl]
  · rw [pk_un a, if_neg a, h x hx]
    unfold drP
    by_cases g : (6 + r ≤ x ∧ x < 6 + (n - 1)) ∨ (46 + r ≤ x ∧ x < 46 + (n - 1)) ∨ (86 + r ≤ x ∧ x < 86 + (n - 1))
    · rw [if_pos g, if_pos (by omega)]
    · rw [if_neg g, if_neg (by omega)]
set_option maxHeartbeats 4000000 in
set_option maxRecDepth 100000 in
theorem m_leaves (a : Nat) (ha : shL[a]? = some (.inl (0, 126))) (D : Nat → Nat → Int32) (J : Nat → Nat → Int64) (T : Nat → Int32) (hM : MT D a T) (n : Nat) (v : VT T n) (r : Nat) (hr : r < n) : FD yX7_leaves cX7_leaves 3 none 0 [.ref a, .int (nI r)] D J (fun res D' J' => res = none ∧ J' = J ∧ MT D' a (dropT T n r) ∧ ∀ c, c ≠ a → D' c = D c) := by
  refine FD.of (by decide) rfl (Nat.le_of_ble_eq_true rfl) (fun Post hPost => ?_)
  show FV _ _ _ _ _ _ _ _ _ _ _ _ [_, _, _] [] _
  have h40 := v.2.1
  have loop : ∀ e, e ≤ n - 1 → r ≤ e → ∀ E : Nat → Nat → Int32, (∀ x, x < 126 → E a x = drP T r e x) → (∀ c, c ≠ a → E c = D c) → FV cX7_leaves 3 none yX7_leaves.cls yX7_leaves.name 0 0 0 Post 0 0 2 [some (.ref a), some (.int (nI r)), some (.int (nI e))] [] (lay E J) := by
    refine up_ind (fun e he ih => ?_)
    intro hre E hE hf
    refine fv_iload_n (q := 3) dX7_leaves_2 rfl rfl ?_
    refine fv_iconst (v := 1) (q := 4) dX7_leaves_3 (by decide) rfl ?_
    refine fv_iadd (q := 5) dX7_leaves_4 rfl ?_
    refine fv_top (nI_1 _) ?_
    refine fv_aload_n (q := 6) dX7_leaves_5 rfl rfl ?_
    refine fv_iconst (v := 0) (q := 7) dX7_leaves_6 (by decide) rfl ?_
    refine fl_iald (q := 8) 0 dX7_leaves_7 ha (by decide) rfl (by decide) rfl ?_
    refine fv_top (y := nI n) (by rw [hE 0 (by decide), drP_o (by omega)]; exact v.1) ?_
    refine fv_icmp_ge (q := 11) 59 dX7_leaves_8 (by decide) rfl (fun c8 => ?_) (fun c8 => ?_)
    · rw [nI_leI (by omega) (by omega)] at c8
      refine fv_aload_n (q := 60) dX7_leaves_59 rfl rfl ?_
      refine fv_iconst (v := 0) (q := 61) dX7_leaves_60 (by decide) rfl ?_
      refine fv_dup2 (q := 62) dX7_leaves_61 rfl rfl rfl ?_
      refine fl_iald (q := 63) 0 dX7_leaves_62 ha (by decide) rfl (by decide) rfl ?_
      refine fv_top (y := nI n) (by rw [hE 0 (by decide), drP_o (by omega)]; exact v.1) ?_
      refine fv_iconst (v := 1) (q := 64) dX7_leaves_63 (by decide) rfl ?_
      refine fv_isub (q := 65) dX7_leaves_64 rfl ?_
      refine fv_top (nI_mm (by omega)) ?_
      refine fl_iast (q := 66) 0 dX7_leaves_65 ha (by decide) rfl (by decide) rfl ?_
      refine fv_vret dX7_leaves_66 rfl rfl (Nat.le_refl _) ?_
      have e9 : e = n - 1 := by omega
      subst e9
      refine hPost _ _ _ ⟨rfl, rfl, ?_, fun c hc => by rw [up_n _ _ _ hc]; exact hf c hc⟩
      unfold MT
      rw [up_s]
      exact drP_e hE hr h40
    · rw [nI_leI (by omega) (by omega)] at c8
      refine fv_aload_n (q := 12) dX7_leaves_11 rfl rfl ?_
      refine fv_bipush (v := 6) (q := 14) dX7_leaves_12 (by decide) rfl ?_
      refine fv_iload_n (q := 15) dX7_leaves_14 rfl rfl ?_
      refine fv_iadd (q := 16) dX7_leaves_15 rfl ?_
      refine fv_aload_n (q := 17) dX7_leaves_16 rfl rfl ?_
      refine fv_bipush (v := 6) (q := 19) dX7_leaves_17 (by decide) rfl ?_
      refine fv_iload_n (q := 20) dX7_leaves_19 rfl rfl ?_
      refine fv_iadd (q := 21) dX7_leaves_20 rfl ?_
      refine fv_iconst (v := 1) (q := 22) dX7_leaves_21 (by decide) rfl ?_
      refine fv_iadd (q := 23) dX7_leaves_22 rfl ?_
      refine fl_iald (q := 24) (6 + e + 1) dX7_leaves_23 ha (by decide) (by show nI 6 + nI e + 1 = _; rw [nI_add, nI_1]) (by omega) rfl ?_
      refine fv_top (y := T (6 + e + 1)) (by rw [hE _ (by omega), drP_o (by omega)]) ?_
      refine fl_iast (q := 25) (6 + e) dX7_leaves_24 ha (by decide) (nI_add 6 e) (by omega) rfl ?_
      refine fv_aload_n (q := 26) dX7_leaves_25 rfl rfl ?_
      refine fv_bipush (v := 46) (q := 28) dX7_leaves_26 (by decide) rfl ?_
      refine fv_iload_n (q := 29) dX7_leaves_28 rfl rfl ?_
      refine fv_iadd (q := 30) dX7_leaves_29 rfl ?_
      refine fv_aload_n (q := 31) dX7_leaves_30 rfl rfl ?_
      refine fv_bipush (v := 46) (q := 33) dX7_leaves_31 (by decide) rfl ?_
      refine fv_iload_n (q := 34) dX7_leaves_33 rfl rfl ?_
      refine fv_iadd (q := 35) dX7_leaves_34 rfl ?_
      refine fv_iconst (v := 1) (q := 36) dX7_leaves_35 (by decide) rfl ?_
      refine fv_iadd (q := 37) dX7_leaves_36 rfl ?_
      refine fl_iald (q := 38) (46 + e + 1) dX7_leaves_37 ha (by decide) (by show nI 46 + nI e + 1 = _; rw [nI_add, nI_1]) (by omega) rfl ?_
      refine fv_top (y := T (46 + e + 1)) (by rw [up_s, pk_un (by omega)]; rw [hE _ (by omega), drP_o (by omega)]) ?_
      refine fl_iast (q := 39) (46 + e) dX7_leaves_38 ha (by decide) (nI_add 46 e) (by omega) rfl ?_
      refine fv_aload_n (q := 40) dX7_leaves_39 rfl rfl ?_
      refine fv_bipush (v := 86) (q := 42) dX7_leaves_40 (by decide) rfl ?_
      refine fv_iload_n (q := 43) dX7_leaves_42 rfl rfl ?_
      refine fv_iadd (q := 44) dX7_leaves_43 rfl ?_
      refine fv_aload_n (q := 45) dX7_leaves_44 rfl rfl ?_
      refine fv_bipush (v := 86) (q := 47) dX7_leaves_45 (by decide) rfl ?_
      refine fv_iload_n (q := 48) dX7_leaves_47 rfl rfl ?_
      refine fv_iadd (q := 49) dX7_leaves_48 rfl ?_
      refine fv_iconst (v := 1) (q := 50) dX7_leaves_49 (by decide) rfl ?_
      refine fv_iadd (q := 51) dX7_leaves_50 rfl ?_
      refine fl_iald (q := 52) (86 + e + 1) dX7_leaves_51 ha (by decide) (by show nI 86 + nI e + 1 = _; rw [nI_add, nI_1]) (by omega) rfl ?_
      refine fv_top (y := T (86 + e + 1)) (by rw [up_s, pk_un (by omega), up_s, pk_un (by omega)]; rw [hE _ (by omega), drP_o (by omega)]) ?_
      refine fl_iast (q := 53) (86 + e) dX7_leaves_52 ha (by decide) (nI_add 86 e) (by omega) rfl ?_
      refine fv_iinc (v := _ + 1) (q := 56) (l' := [_, _, _]) dX7_leaves_53 rfl rfl (by decide) rfl rfl rfl ?_
      refine fv_goto 2 dX7_leaves_56 (by decide) ?_
      rw [nI_1]
      refine ih (by omega) (by omega) _ ?_ (fun c hc => by rw [up_n _ _ _ hc, up_n _ _ _ hc, up_n _ _ _ hc]; exact hf c hc)
      rw [up_s, up_s, up_s]
      exact drP_s hE (by omega) hre
  refine fv_iload_n (q := 1) dX7_leaves_0 rfl rfl ?_
  refine fv_istore_n (i := 2) (q := 2) (l' := [_, _, _]) dX7_leaves_1 rfl (by decide) rfl rfl rfl ?_
  exact loop r (by omega) (Nat.le_refl _) D (fun x hx => by rw [drP_0]; exact hM x hx) (fun _ _ => rfl)
theorem ct_skip (p : Nat → Bool) (j : Nat) : ∀ m, fb_ct (fun r => decide (¬ r = j) && p r) (j + 1 + m) = fb_ct (fun e => p (if e < j then e else e + 1)) (j + m)
  | 0 => by
    show fb_ct _ (j + 1) = _
    rw [fb_ct_succ, if_neg (by simp)]
    exact fb_ct_cong (fun k hk => by rw [if_pos hk, decide_eq_true (show ¬ k = j by omega), Bool.true_and])
  | m + 1 => by
    show fb_ct _ (j + 1 + m + 1) = fb_ct _ (j + m + 1)
    rw [fb_ct_succ, fb_ct_succ, ct_skip p j m]
    simp only [if_neg (show ¬ j + m < j by omega), decide_eq_true (show ¬ j + 1 + m = j by omega), Bool.true_and, show j + m + 1 = j + 1 + m by omega]
theorem chg_eq {T : Nat → Int32} {n j : Nat} (hj : j < n) : fb_ct (fun e => decide (¬ ans (dropT T n j) (n - 1) e 2 = ans T n (if e < j then e else e + 1) 2)) (n - 1) = chg T n j := by
  unfold chg
  obtain ⟨m, rfl⟩ : ∃ m, n = j + 1 + m := ⟨n - (j + 1), by omega⟩
  rw [ct_skip (fun r => decide (¬ ans T (j + 1 + m) r 2 = ans (dropT T (j + 1 + m) j) (j + 1 + m - 1) (if r < j then r else r - 1) 2)) j m, show j + 1 + m - 1 = j + m by omega]
  refine fb_ct_cong (fun k hk => ndec ?_)
  by_cases q : k < j
  · simp only [if_pos q]; exact ⟨fun h z => h z.symm, fun h z => h z.symm⟩
  · simp only [if_neg q, if_neg (show ¬ k + 1 < j by omega), Nat.add_sub_cancel]; exact ⟨fun h z => h z.symm, fun h z => h z.symm⟩
set_option maxHeartbeats 4000000 in
set_option maxRecDepth 100000 in
theorem m_changedBy (D : Nat → Nat → Int32) (J : Nat → Nat → Int64) (T : Nat → Int32) (n : Nat) (hM : MT D 125 T) (v : VT T n) (hL : LaidM D T n) (r : Nat) (hr : r < n) : FD yX7_changedBy cX7_changedBy 4 (some .int) 5 [.ref 124, .int (nI r)] D J (fun res D' J' => res = some (.int (nI (chg T n r))) ∧ J' = J ∧ KR D D') := by
  refine FD.of (by decide) rfl (Nat.le_of_ble_eq_true rfl) (fun Post hPost => ?_)
  show FV _ _ _ _ _ _ _ _ _ _ _ _ [_, _, _, _] [] _
  have h40 := v.2.1
  have vd := VT_drop v hr
  have loop2 : ∀ A : Nat → Nat → Int32, KR D A → MT A 126 (dropT T n r) → LaidM A (dropT T n r) (n - 1) → (∀ q, q < n → A 141 q = ans T n q 2) → ∀ e, e ≤ n - 1 → ∀ E : Nat → Nat → Int32, KF A E → FV cX7_changedBy 4 (some .int) yX7_changedBy.cls yX7_changedBy.name 5 0 0 Post 0 0 67 [some (.ref 124), some (.int (nI r)), some (.int (nI (fb_ct (fun e => decide (¬ ans (dropT T n r) (n - 1) e 2 = ans T n (if e < r then e else e + 1) 2)) e))), some (.int (nI e))] [] (lay E J) := by
    intro A hA hMA hLA hS
    refine up_ind (fun e he ih => ?_)
    intro E hK
    refine fv_iload_n (q := 68) dX7_changedBy_67 rfl rfl ?_
    refine fv_aload_n (q := 69) dX7_changedBy_68 rfl rfl ?_
    refine fl_getR (q := 72) dX7_changedBy_69 fX7_13 sh124 rfl rfl ?_
    refine fv_iconst (v := 0) (q := 73) dX7_changedBy_72 (by decide) rfl ?_
    refine fl_iald (q := 74) 0 dX7_changedBy_73 sh126 (by decide) rfl (by decide) rfl ?_
    refine fv_top (y := nI (n - 1)) ((hK.mt hMA ⟨by decide, by decide⟩ 0 (by decide)).trans vd.1) ?_
    refine fv_icmp_ge (q := 77) 121 dX7_changedBy_74 (by decide) rfl (fun c74 => ?_) (fun c74 => ?_)
    · rw [nI_leI (by omega) (by omega)] at c74
      have hin : e = n - 1 := by omega
      subst hin
      refine fv_iload_n (q := 122) dX7_changedBy_121 rfl rfl ?_
      refine fv_iret dX7_changedBy_122 rfl rfl (Nat.le_refl _) ?_
      exact hPost _ _ _ ⟨by rw [chg_eq hr], rfl, hA.tr hK.kr⟩
    · rw [nI_leI (by omega) (by omega)] at c74
      refine fv_iload_n (q := 78) dX7_changedBy_77 rfl rfl ?_
      refine fv_aload_n (q := 79) dX7_changedBy_78 rfl rfl ?_
      refine fv_aload_n (q := 80) dX7_changedBy_79 rfl rfl ?_
      refine fl_getR (q := 83) dX7_changedBy_80 fX7_13 sh124 rfl rfl ?_
      refine fv_iload_n (q := 84) dX7_changedBy_83 rfl rfl ?_
      refine fv_iconst (v := 2) (q := 85) dX7_changedBy_84 (by decide) rfl ?_
      refine fl_callV (As := [_, _, _]) (q := 88) dX7_changedBy_85 gX7_135 rfl sh124 rfl rfl (Nat.le_of_ble_eq_true rfl) rfl (by decide) (m_ofFrame 126 sh126 E J _ (hK.mt hMA ⟨by decide, by decide⟩) (n - 1) vd ⟨by decide, by decide⟩ (hK.la hLA) e (by omega) 2) (fun res D2 J2 hp => ?_)
      obtain ⟨rfl, rfl, hK2⟩ := hp
      refine fv_aload_n (q := 89) dX7_changedBy_88 rfl rfl ?_
      refine fl_getR (q := 92) dX7_changedBy_89 fX7_60 sh124 rfl rfl ?_
      refine fv_iload_n (q := 93) dX7_changedBy_92 rfl rfl ?_
      refine fv_iload_n (q := 94) dX7_changedBy_93 rfl rfl ?_
      refine fv_icmp_ge (q := 97) 101 dX7_changedBy_94 (by decide) rfl (fun c94 => ?_) (fun c94 => ?_)
      · rw [nI_leI (by omega) (by omega), Nat.not_lt.symm] at c94
        refine fv_iload_n (q := 102) dX7_changedBy_101 rfl rfl ?_
        refine fv_iconst (v := 1) (q := 103) dX7_changedBy_102 (by decide) rfl ?_
        refine fv_iadd (q := 104) dX7_changedBy_103 rfl ?_
        refine fv_top (nI_1 _) ?_
        refine fl_iald (q := 105) (e + 1) dX7_changedBy_104 sh141 (by decide) rfl (by omega) rfl ?_
        refine fv_top (y := ans T n (e + 1) 2) (by rw [hK2.2 141 (by decide) (by decide) (by decide), hK.2 141 (by decide) (by decide) (by decide)]; exact hS _ (by omega)) ?_
        refine fv_icmp_eq (q := 108) 112 dX7_changedBy_105 (by decide) rfl (fun c105 => ?_) (fun c105 => ?_)
        · refine fv_iconst (v := 0) (q := 113) dX7_changedBy_112 (by decide) rfl ?_
          refine fv_iadd (q := 114) dX7_changedBy_113 rfl ?_
          refine fv_istore_n (i := 2) (q := 115) (l' := [_, _, _, _]) dX7_changedBy_114 rfl (by decide) rfl rfl rfl ?_
          refine fv_iinc (v := _ + 1) (q := 118) (l' := [_, _, _, _]) dX7_changedBy_115 rfl rfl (by decide) rfl rfl rfl ?_
          refine fv_goto 67 dX7_changedBy_118 (by decide) ?_
          have h9 := ih (by omega) D2 (hK.tr hK2)
          rw [ct_f (p := fun e => decide (¬ ans (dropT T n r) (n - 1) e 2 = ans T n (if e < r then e else e + 1) 2)) (decide_eq_false (by rw [if_neg c94]; exact fun z => z c105))] at h9
          rw [nI_1, show (0 : Int32) = nI 0 from rfl, nI_add]
          exact h9
        · refine fv_iconst (v := 1) (q := 109) dX7_changedBy_108 (by decide) rfl ?_
          refine fv_goto 113 dX7_changedBy_109 (by decide) ?_
          refine fv_iadd (q := 114) dX7_changedBy_113 rfl ?_
          refine fv_istore_n (i := 2) (q := 115) (l' := [_, _, _, _]) dX7_changedBy_114 rfl (by decide) rfl rfl rfl ?_
          refine fv_iinc (v := _ + 1) (q := 118) (l' := [_, _, _, _]) dX7_changedBy_115 rfl rfl (by decide) rfl rfl rfl ?_
          refine fv_goto 67 dX7_changedBy_118 (by decide) ?_
          have h9 := ih (by omega) D2 (hK.tr hK2) 
          rw [ct_t (p := fun e => decide (¬ ans (dropT T n r) (n - 1) e 2 = ans T n (if e < r then e else e + 1) 2)) (decide_eq_true (by rw [if_neg c94]; exact c105))] at h9
          rw [nI_1, nI_1]
          exact h9
      · rw [nI_leI (by omega) (by omega), Nat.not_le] at c94
        refine fv_iload_n (q := 98) dX7_changedBy_97 rfl rfl ?_
        refine fv_goto 104 dX7_changedBy_98 (by decide) ?_
        refine fl_iald (q := 105) e dX7_changedBy_104 sh141 (by decide) rfl (by omega) rfl ?_
        refine fv_top (y := ans T n e 2) (by rw [hK2.2 141 (by decide) (by decide) (by decide), hK.2 141 (by decide) (by decide) (by decide)]; exact hS _ (by omega)) ?_
        refine fv_icmp_eq (q := 108) 112 dX7_changedBy_105 (by decide) rfl (fun c105 => ?_) (fun c105 => ?_)
        · refine fv_iconst (v := 0) (q := 113) dX7_changedBy_112 (by decide) rfl ?_
          refine fv_iadd (q := 114) dX7_changedBy_113 rfl ?_
          refine fv_istore_n (i := 2) (q := 115) (l' := [_, _, _, _]) dX7_changedBy_114 rfl (by decide) rfl rfl rfl ?_
          refine fv_iinc (v := _ + 1) (q := 118) (l' := [_, _, _, _]) dX7_changedBy_115 rfl rfl (by decide) rfl rfl rfl ?_
          refine fv_goto 67 dX7_changedBy_118 (by decide) ?_
          have h9 := ih (by omega) D2 (hK.tr hK2)
          rw [ct_f (p := fun e => decide (¬ ans (dropT T n r) (n - 1) e 2 = ans T n (if e < r then e else e + 1) 2)) (decide_eq_false (by rw [if_pos c94]; exact fun z => z c105))] at h9
          rw [nI_1, show (0 : Int32) = nI 0 from rfl, nI_add]
          exact h9
        · refine fv_iconst (v := 1) (q := 109) dX7_changedBy_108 (by decide) rfl ?_
          refine fv_goto 113 dX7_changedBy_109 (by decide) ?_
          refine fv_iadd (q := 114) dX7_changedBy_113 rfl ?_
          refine fv_istore_n (i := 2) (q := 115) (l' := [_, _, _, _]) dX7_changedBy_114 rfl (by decide) rfl rfl rfl ?_
          refine fv_iinc (v := _ + 1) (q := 118) (l' := [_, _, _, _]) dX7_changedBy_115 rfl rfl (by decide) rfl rfl rfl ?_
          refine fv_goto 67 dX7_changedBy_118 (by decide) ?_
          have h9 := ih (by omega) D2 (hK.tr hK2) 
          rw [ct_t (p := fun e => decide (¬ ans (dropT T n r) (n - 1) e 2 = ans T n (if e < r then e else e + 1) 2)) (decide_eq_true (by rw [if_pos c94]; exact c105))] at h9
          rw [nI_1, nI_1]
          exact h9
  have loop : ∀ i, i ≤ n → ∀ E : Nat → Nat → Int32, KR D E → LaidM E T n → (∀ q, q < i → E 141 q = ans T n q 2) → FV cX7_changedBy 4 (some .int) yX7_changedBy.cls yX7_changedBy.name 5 0 0 Post 0 0 2 [some (.ref 124), some (.int (nI r)), some (.int (nI i)), none] [] (lay E J) := by
    refine up_ind (fun i hi ih => ?_)
    intro E hR hLE hS
    have hME := hR.mt hM
    refine fv_iload_n (q := 3) dX7_changedBy_2 rfl rfl ?_
    refine fv_aload_n (q := 4) dX7_changedBy_3 rfl rfl ?_
    refine fl_getR (q := 7) dX7_changedBy_4 fX7_7 sh124 rfl rfl ?_
    refine fv_iconst (v := 0) (q := 8) dX7_changedBy_7 (by decide) rfl ?_
    refine fl_iald (q := 9) 0 dX7_changedBy_8 sh125 (by decide) rfl (by decide) rfl ?_
    refine fv_top (y := nI n) ((hME 0 (by decide)).trans v.1) ?_
    refine fv_icmp_ge (q := 12) 34 dX7_changedBy_9 (by decide) rfl (fun c9 => ?_) (fun c9 => ?_)
    · rw [nI_leI (by omega) (by omega)] at c9
      have hin : i = n := by omega
      subst hin
      refine fv_aload_n (q := 35) dX7_changedBy_34 rfl rfl ?_
      refine fl_getR (q := 38) dX7_changedBy_35 fX7_7 sh124 rfl rfl ?_
      refine fv_iconst (v := 0) (q := 39) dX7_changedBy_38 (by decide) rfl ?_
      refine fv_aload_n (q := 40) dX7_changedBy_39 rfl rfl ?_
      refine fl_getR (q := 43) dX7_changedBy_40 fX7_13 sh124 rfl rfl ?_
      refine fv_iconst (v := 0) (q := 44) dX7_changedBy_43 (by decide) rfl ?_
      refine fl_callS (As := [_, _, _, _]) (q := 47) dX7_changedBy_44 gX7_158 rfl rfl (Nat.le_of_ble_eq_true rfl) rfl (by decide) (m_copies 125 126 126 126 0 0 sh125 sh126 (by decide) (by decide) (by decide) (by decide) (by decide) E J) (fun res D1 J1 hp => ?_)
      obtain ⟨rfl, rfl, hc, hf2⟩ := hp
      have hMC : MT D1 126 T := by
        unfold MT
        intro x hx
        rw [hc, fb_put_in (by omega) (by omega), Nat.sub_zero, Nat.zero_add]
        exact hME x hx
      refine fv_aload_n (q := 48) dX7_changedBy_47 rfl rfl ?_
      refine fl_getR (q := 51) dX7_changedBy_48 fX7_13 sh124 rfl rfl ?_
      refine fv_iload_n (q := 52) dX7_changedBy_51 rfl rfl ?_
      refine fl_callS (As := [_, _]) (q := 55) dX7_changedBy_52 gX7_162 rfl rfl (Nat.le_of_ble_eq_true rfl) rfl (by decide) (m_leaves 126 sh126 D1 _ T hMC i v r hr) (fun res D2 J2 hp => ?_)
      obtain ⟨rfl, rfl, hMD, hf3⟩ := hp
      refine fv_aload_n (q := 56) dX7_changedBy_55 rfl rfl ?_
      refine fv_aload_n (q := 57) dX7_changedBy_56 rfl rfl ?_
      refine fl_getR (q := 60) dX7_changedBy_57 fX7_13 sh124 rfl rfl ?_
      refine fl_callV (As := [_]) (q := 63) dX7_changedBy_60 gX7_139 rfl sh124 rfl rfl (Nat.le_of_ble_eq_true rfl) rfl (by decide) (m_stands 126 sh126 D2 _ _ hMD (i - 1) (VT_drop v hr) (by decide)) (fun res D3 J3 hp => ?_)
      obtain ⟨rfl, rfl, hLA, hf4⟩ := hp
      refine fv_iconst (v := 0) (q := 64) dX7_changedBy_63 (by decide) rfl ?_
      refine fv_istore_n (i := 2) (q := 65) (l' := [_, _, _, _]) dX7_changedBy_64 rfl (by decide) rfl rfl rfl ?_
      refine fv_iconst (v := 0) (q := 66) dX7_changedBy_65 (by decide) rfl ?_
      refine fv_istore_n (i := 3) (q := 67) (l' := [_, _, _, _]) dX7_changedBy_66 rfl (by decide) rfl rfl rfl ?_
      refine loop2 D3 ?_ ?_ hLA ?_ 0 (Nat.zero_le _) D3 (KF.rf _)
      · refine hR.tr ⟨fun x hx => ?_, fun c hc => ?_⟩
        · rw [hf4 124 (by decide), hf3 124 (by decide), hf2 124 (by decide)]
        · rw [hf4 c (by omega), hf3 c (by omega), hf2 c (by omega)]
      · unfold MT; rw [hf4 126 (by decide)]; exact hMD
      · intro q hq; rw [hf4 141 (by decide), hf3 141 (by decide), hf2 141 (by decide)]; exact hS q hq
    · rw [nI_leI (by omega) (by omega)] at c9
      refine fv_aload_n (q := 13) dX7_changedBy_12 rfl rfl ?_
      refine fl_getR (q := 16) dX7_changedBy_13 fX7_60 sh124 rfl rfl ?_
      refine fv_iload_n (q := 17) dX7_changedBy_16 rfl rfl ?_
      refine fv_aload_n (q := 18) dX7_changedBy_17 rfl rfl ?_
      refine fv_aload_n (q := 19) dX7_changedBy_18 rfl rfl ?_
      refine fl_getR (q := 22) dX7_changedBy_19 fX7_7 sh124 rfl rfl ?_
      refine fv_iload_n (q := 23) dX7_changedBy_22 rfl rfl ?_
      refine fv_iconst (v := 2) (q := 24) dX7_changedBy_23 (by decide) rfl ?_
      refine fl_callV (As := [_, _, _]) (q := 27) dX7_changedBy_24 gX7_135 rfl sh124 rfl rfl (Nat.le_of_ble_eq_true rfl) rfl (by decide) (m_ofFrame 125 sh125 E J T hME n v ⟨by decide, by decide⟩ hLE i (by omega) 2) (fun res D1 J1 hp => ?_)
      obtain ⟨rfl, rfl, hK2⟩ := hp
      refine fl_iast (q := 28) i dX7_changedBy_27 sh141 (by decide) rfl (by omega) rfl ?_
      refine fv_iinc (v := _ + 1) (q := 31) (l' := [_, _, _, _]) dX7_changedBy_28 rfl rfl (by decide) rfl rfl rfl ?_
      refine fv_goto 2 dX7_changedBy_31 (by decide) ?_
      rw [nI_1]
      refine ih (by omega) _ ((hR.tr hK2.kr).ua (Or.inr (by decide))) ((hK2.la hLE).of (fun c h1 h2 => by rw [up_n _ _ _ (by omega)])) (fun q hq => ?_)
      rw [up_s]
      by_cases g : q = i
      · subst g; rw [pk_us]
      · rw [pk_un g, hK2.2 141 (by decide) (by decide) (by decide)]; exact hS q (by omega)
  refine fv_iconst (v := 0) (q := 1) dX7_changedBy_0 (by decide) rfl ?_
  refine fv_istore_n (i := 2) (q := 2) (l' := [_, _, _, _]) dX7_changedBy_1 rfl (by decide) rfl rfl rfl ?_
  exact loop 0 (Nat.zero_le _) D (KR.rf D) hL (fun q hq => absurd hq (Nat.not_lt_zero _))
