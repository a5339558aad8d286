def ansO (S : List Int32) (w : Int32) : Int32 :=
  if w = 3 then S.getD 0 1000000
  else if w = 4 then S.getD (S.length - 1) 1000000
  else if w = 7 then nI (ulk S S.length)
  else S.getD ((S.length - 1) / 2) 1000000
theorem c_wa (b : Nat) (hb : LenIx b) (D : Nat → Nat → Int32) (J : Nat → Nat → Int64) (L : List Nat) (W : List Int32) (hS : LenS D b L W) (hW : W.length ≤ 40) (j : Nat) (k : Int32) (hk : 0 < W.length → k = nI j ∧ j < W.length) : FI yX3_worthAt cX3_worthAt 2 (some .int) 0 [.ref b, .int k] D J (W.getD j 1000000) := by
  rcases Nat.eq_zero_or_pos W.length with h | h
  · have e : W = [] := List.length_eq_zero_iff.mp h
    have e2 : W.getD j 1000000 = 1000000 := by rw [e]; rfl
    rw [e2]
    refine c_waO b hb D J L W hS k ?_
    rw [h]
    by_cases h0 : k < 0
    · exact Or.inl h0
    · exact Or.inr (by rw [nI_0]; exact Int32.not_lt.mp h0)
  · obtain ⟨rfl, hj⟩ := hk h
    exact c_waI b hb D J L W hS hW j hj
theorem c_wos (b : Nat) (hb : LenIx b) (D : Nat → Nat → Int32) (J : Nat → Nat → Int64) (T : Nat → Int32) (n : Nat) (hT : TabOf D (b + 2) T) (v : VT T n) (L : List Nat) (W : List Int32) (hS : LenS D b L W) (hL : L.length ≤ 40) (hx : ∀ x, x ∈ L → x < n) (j : Nat) (k : Int32) (hk : 0 < L.length → k = nI j ∧ j < L.length) : FI yX3_worthOfSeen cX3_worthOfSeen 2 (some .int) 0 [.ref b, .int k] D J ((L.map (wo T)).getD j 1000000) := by
  rcases Nat.eq_zero_or_pos L.length with h | h
  · have e : L = [] := List.length_eq_zero_iff.mp h
    have e2 : (L.map (wo T)).getD j 1000000 = 1000000 := by rw [e]; rfl
    rw [e2]
    refine c_wosO b hb D J L W hS k ?_
    rw [h]
    by_cases h0 : k < 0
    · exact Or.inl h0
    · exact Or.inr (by rw [nI_0]; exact Int32.not_lt.mp h0)
  · obtain ⟨rfl, hj⟩ := hk h
    exact c_wosI b hb D J T n hT v L W hS hL hx j hj
set_option maxHeartbeats 4000000 in
set_option maxRecDepth 100000 in
theorem c_answerInOrder (b : Nat) (hb : LenIx b) (D : Nat → Nat → Int32) (J : Nat → Nat → Int64) (L : List Nat) (W : List Int32) (hS : LenS D b L W) (hW : W.length ≤ 40) (w : Int32) : FD yX3_answerInOrder cX3_answerInOrder 2 (some .int) 1 [.ref b, .int w] D J (fun res D' J' => res = some (.int (ansO (srt W) w)) ∧ J' = J ∧ ∀ a, a ≠ b + 11 → D' a = D a) := by
  refine FD.of (by decide) rfl (Nat.le_of_ble_eq_true rfl) (fun Post hPost => ?_)
  show FV _ _ _ _ _ _ _ _ _ _ _ _ [_, _] [] _
  refine fv_aload_n (q := 1) dX3_answerInOrder_0 rfl rfl ?_
  refine fl_callV (As := []) (q := 4) dX3_answerInOrder_1 gX3_119 rfl hb.len rfl rfl (Nat.le_of_ble_eq_true rfl) rfl (by decide) (c_sortWorths b hb D J L W hS hW) (fun res D1 J1 hp => ?_)
  obtain ⟨rfl, rfl, hS2, hf⟩ := hp
  refine fv_iload_n (q := 5) dX3_answerInOrder_4 rfl rfl ?_
  have hW2 : (srt W).length ≤ 40 := by rw [srt_len]; exact hW
  have w3 : w = 3 → FV cX3_answerInOrder 2 (some .int) yX3_answerInOrder.cls yX3_answerInOrder.name 1 0 0 Post 0 0 40 [some (.ref b), some (.int w)] [] (lay D1 J1) := by
    intro h3
    refine fv_aload_n (q := 41) dX3_answerInOrder_40 rfl rfl ?_
    refine fv_iconst (v := 0) (q := 42) dX3_answerInOrder_41 (by decide) rfl ?_
    refine fl_callVi (As := [_]) (q := 45) dX3_answerInOrder_42 gX3_122 rfl hb.len rfl rfl (Nat.le_of_ble_eq_true rfl) rfl (by decide) (c_wa b hb D1 J1 L _ hS2 hW2 0 0 (fun h => ⟨rfl, h⟩)) ?_
    refine fv_iret dX3_answerInOrder_45 rfl rfl (Nat.le_refl _) ?_
    exact hPost _ _ _ ⟨by unfold ansO; rw [if_pos h3], rfl, hf⟩
  have w4 : ¬ w = 3 → w = 4 → FV cX3_answerInOrder 2 (some .int) yX3_answerInOrder.cls yX3_answerInOrder.name 1 0 0 Post 0 0 46 [some (.ref b), some (.int w)] [] (lay D1 J1) := by
    intro h3 h4
    refine fv_aload_n (q := 47) dX3_answerInOrder_46 rfl rfl ?_
    refine fv_aload_n (q := 48) dX3_answerInOrder_47 rfl rfl ?_
    refine fl_getI (q := 51) dX3_answerInOrder_48 fX3_38 hb.len rfl rfl ?_
    refine fv_top (y := nI (srt W).length) hS2.2.1 ?_
    refine fv_iconst (v := 1) (q := 52) dX3_answerInOrder_51 (by decide) rfl ?_
    refine fv_isub (q := 53) dX3_answerInOrder_52 rfl ?_
    refine fl_callVi (As := [_]) (q := 56) dX3_answerInOrder_53 gX3_122 rfl hb.len rfl rfl (Nat.le_of_ble_eq_true rfl) rfl (by decide) (c_wa b hb D1 J1 L _ hS2 hW2 ((srt W).length - 1) _ (fun h => ⟨pk_sub (b := 1) h, by omega⟩)) ?_
    refine fv_iret dX3_answerInOrder_56 rfl rfl (Nat.le_refl _) ?_
    exact hPost _ _ _ ⟨by unfold ansO; rw [if_neg h3, if_pos h4], rfl, hf⟩
  have w5 : ¬ w = 3 → ¬ w = 4 → w = 5 → FV cX3_answerInOrder 2 (some .int) yX3_answerInOrder.cls yX3_answerInOrder.name 1 0 0 Post 0 0 62 [some (.ref b), some (.int w)] [] (lay D1 J1) := by
    intro h3 h4 h5
    refine fv_aload_n (q := 63) dX3_answerInOrder_62 rfl rfl ?_
    refine fv_aload_n (q := 64) dX3_answerInOrder_63 rfl rfl ?_
    refine fl_getI (q := 67) dX3_answerInOrder_64 fX3_38 hb.len rfl rfl ?_
    refine fv_top (y := nI (srt W).length) hS2.2.1 ?_
    refine fv_iconst (v := 1) (q := 68) dX3_answerInOrder_67 (by decide) rfl ?_
    refine fv_isub (q := 69) dX3_answerInOrder_68 rfl ?_
    refine fv_iconst (v := 2) (q := 70) dX3_answerInOrder_69 (by decide) rfl ?_
    refine fv_idiv (q := 71) dX3_answerInOrder_70 (by decide) rfl ?_
    refine fl_callVi (As := [_]) (q := 74) dX3_answerInOrder_71 gX3_122 rfl hb.len rfl rfl (Nat.le_of_ble_eq_true rfl) rfl (by decide) (c_wa b hb D1 J1 L _ hS2 hW2 (((srt W).length - 1) / 2) _ (fun h => ⟨by rw [show nI (srt W).length - 1 = nI ((srt W).length - 1) from pk_sub (b := 1) h]; exact pk_div (d := 2) (by omega) (by omega) (by omega), by omega⟩)) ?_
    refine fv_iret dX3_answerInOrder_74 rfl rfl (Nat.le_refl _) ?_
    exact hPost _ _ _ ⟨by unfold ansO; rw [if_neg h3, if_neg h4, if_neg (by rw [h5]; decide)], rfl, hf⟩
  have w6 : ¬ w = 3 → ¬ w = 4 → ¬ w = 5 → w = 6 → FV cX3_answerInOrder 2 (some .int) yX3_answerInOrder.cls yX3_answerInOrder.name 1 0 0 Post 0 0 62 [some (.ref b), some (.int w)] [] (lay D1 J1) := by
    intro h3 h4 h5 h6
    refine fv_aload_n (q := 63) dX3_answerInOrder_62 rfl rfl ?_
    refine fv_aload_n (q := 64) dX3_answerInOrder_63 rfl rfl ?_
    refine fl_getI (q := 67) dX3_answerInOrder_64 fX3_38 hb.len rfl rfl ?_
    refine fv_top (y := nI (srt W).length) hS2.2.1 ?_
    refine fv_iconst (v := 1) (q := 68) dX3_answerInOrder_67 (by decide) rfl ?_
    refine fv_isub (q := 69) dX3_answerInOrder_68 rfl ?_
    refine fv_iconst (v := 2) (q := 70) dX3_answerInOrder_69 (by decide) rfl ?_
    refine fv_idiv (q := 71) dX3_answerInOrder_70 (by decide) rfl ?_
    refine fl_callVi (As := [_]) (q := 74) dX3_answerInOrder_71 gX3_122 rfl hb.len rfl rfl (Nat.le_of_ble_eq_true rfl) rfl (by decide) (c_wa b hb D1 J1 L _ hS2 hW2 (((srt W).length - 1) / 2) _ (fun h => ⟨by rw [show nI (srt W).length - 1 = nI ((srt W).length - 1) from pk_sub (b := 1) h]; exact pk_div (d := 2) (by omega) (by omega) (by omega), by omega⟩)) ?_
    refine fv_iret dX3_answerInOrder_74 rfl rfl (Nat.le_refl _) ?_
    exact hPost _ _ _ ⟨by unfold ansO; rw [if_neg h3, if_neg h4, if_neg (by rw [h6]; decide)], rfl, hf⟩
  have w7 : ¬ w = 3 → ¬ w = 4 → ¬ w = 5 → ¬ w = 6 → w = 7 → FV cX3_answerInOrder 2 (some .int) yX3_answerInOrder.cls yX3_answerInOrder.name 1 0 0 Post 0 0 57 [some (.ref b), some (.int w)] [] (lay D1 J1) := by
    intro h3 h4 h5 h6 h7
    refine fv_aload_n (q := 58) dX3_answerInOrder_57 rfl rfl ?_
    refine fl_callVi (As := []) (q := 61) dX3_answerInOrder_58 gX3_125 rfl hb.len rfl rfl (Nat.le_of_ble_eq_true rfl) rfl (by decide) (c_unlikeWorths b hb D1 J1 L _ hS2 hW2) ?_
    refine fv_iret dX3_answerInOrder_61 rfl rfl (Nat.le_refl _) ?_
    exact hPost _ _ _ ⟨by unfold ansO; rw [if_neg h3, if_neg h4, if_pos h7], rfl, hf⟩
  have wd : ¬ w = 3 → ¬ w = 4 → ¬ w = 5 → ¬ w = 6 → ¬ w = 7 → FV cX3_answerInOrder 2 (some .int) yX3_answerInOrder.cls yX3_answerInOrder.name 1 0 0 Post 0 0 62 [some (.ref b), some (.int w)] [] (lay D1 J1) := by
    intro h3 h4 h5 h6 h7
    refine fv_aload_n (q := 63) dX3_answerInOrder_62 rfl rfl ?_
    refine fv_aload_n (q := 64) dX3_answerInOrder_63 rfl rfl ?_
    refine fl_getI (q := 67) dX3_answerInOrder_64 fX3_38 hb.len rfl rfl ?_
    refine fv_top (y := nI (srt W).length) hS2.2.1 ?_
    refine fv_iconst (v := 1) (q := 68) dX3_answerInOrder_67 (by decide) rfl ?_
    refine fv_isub (q := 69) dX3_answerInOrder_68 rfl ?_
    refine fv_iconst (v := 2) (q := 70) dX3_answerInOrder_69 (by decide) rfl ?_
    refine fv_idiv (q := 71) dX3_answerInOrder_70 (by decide) rfl ?_
    refine fl_callVi (As := [_]) (q := 74) dX3_answerInOrder_71 gX3_122 rfl hb.len rfl rfl (Nat.le_of_ble_eq_true rfl) rfl (by decide) (c_wa b hb D1 J1 L _ hS2 hW2 (((srt W).length - 1) / 2) _ (fun h => ⟨by rw [show nI (srt W).length - 1 = nI ((srt W).length - 1) from pk_sub (b := 1) h]; exact pk_div (d := 2) (by omega) (by omega) (by omega), by omega⟩)) ?_
    refine fv_iret dX3_answerInOrder_74 rfl rfl (Nat.le_refl _) ?_
    exact hPost _ _ _ ⟨by unfold ansO; rw [if_neg h3, if_neg h4, if_neg h7], rfl, hf⟩
  by_cases h3 : w = 3
  · refine fv_top h3 ?_
    exact fv_tableIn 40 dX3_answerInOrder_5 (by decide) (by decide) rfl (by decide) (w3 h3)
  · skip
    by_cases h4 : w = 4
    · refine fv_top h4 ?_
      exact fv_tableIn 46 dX3_answerInOrder_5 (by decide) (by decide) rfl (by decide) (w4 h3 h4)
    · skip
      by_cases h5 : w = 5
      · refine fv_top h5 ?_
        exact fv_tableIn 62 dX3_answerInOrder_5 (by decide) (by decide) rfl (by decide) (w5 h3 h4 h5)
      · skip
        by_cases h6 : w = 6
        · refine fv_top h6 ?_
          exact fv_tableIn 62 dX3_answerInOrder_5 (by decide) (by decide) rfl (by decide) (w6 h3 h4 h5 h6)
        · skip
          by_cases h7 : w = 7
          · refine fv_top h7 ?_
            exact fv_tableIn 57 dX3_answerInOrder_5 (by decide) (by decide) rfl (by decide) (w7 h3 h4 h5 h6 h7)
          · skip
            have k3 : (w).toInt ≠ 3 := fun z => h3 (by rw [fa_eq]; exact z)
            have k4 : (w).toInt ≠ 4 := fun z => h4 (by rw [fa_eq]; exact z)
            have k5 : (w).toInt ≠ 5 := fun z => h5 (by rw [fa_eq]; exact z)
            have k6 : (w).toInt ≠ 6 := fun z => h6 (by rw [fa_eq]; exact z)
            have k7 : (w).toInt ≠ 7 := fun z => h7 (by rw [fa_eq]; exact z)
            exact fv_tableOut 62 dX3_answerInOrder_5 (by omega) (by decide) (wd h3 h4 h5 h6 h7)
set_option maxHeartbeats 4000000 in
set_option maxRecDepth 100000 in
theorem c_answer (b : Nat) (hb : LenIx b) (D : Nat → Nat → Int32) (J : Nat → Nat → Int64) (T : Nat → Int32) (n : Nat) (hT : TabOf D (b + 2) T) (v : VT T n) (hO : OrdOf D b T n) (r : Nat) (hr : r < n) (w : Int32) : FD yX3_answer cX3_answer 3 (some .int) 4 [.ref b, .int (nI r), .int w] D J (fun res D' J' => res = some (.int (ans T n r w)) ∧ J' = J ∧ ∀ a, a ≠ b → a ≠ b + 10 → a ≠ b + 11 → D' a = D a) := by
  refine FD.of (by decide) rfl (Nat.le_of_ble_eq_true rfl) (fun Post hPost => ?_)
  show FV _ _ _ _ _ _ _ _ _ _ _ _ [_, _, _] [] _
  refine fv_aload_n (q := 1) dX3_answer_0 rfl rfl ?_
  refine fv_iload_n (q := 2) dX3_answer_1 rfl rfl ?_
  refine fl_callV (As := [_]) (q := 5) dX3_answer_2 gX3_102 rfl hb.len rfl rfl (Nat.le_of_ble_eq_true rfl) rfl (by decide) (c_look b hb D J T n hT v hO r hr) (fun res D1 J1 hp => ?_)
  obtain ⟨rfl, rfl, hS, hf⟩ := hp
  refine fv_iload_n (q := 6) dX3_answer_5 rfl rfl ?_
  have hL : (frL T n r n).length ≤ 40 := by have := frL_len T n r n; have := v.2.1; omega
  have hW : (wl T (frL T n r n)).length ≤ 40 := Nat.le_trans (wl_len _ _) hL
  have hx : ∀ x, x ∈ frL T n r n → x < n := fun x h => (frL_mem (Nat.le_refl _) h).1
  have hT1 : TabOf D1 (b + 2) T := hT.of (hf _ (by omega) (by omega) (by omega)) (hf _ (by omega) (by omega) (by omega)) (hf _ (by omega) (by omega) (by omega)) (hf _ (by omega) (by omega) (by omega))
  have w0 : w = 0 → FV cX3_answer 3 (some .int) yX3_answer.cls yX3_answer.name 4 0 0 Post 0 0 48 [some (.ref b), some (.int (nI r)), some (.int w)] [] (lay D1 J1) := by
    intro h0
    refine fv_aload_n (q := 49) dX3_answer_48 rfl rfl ?_
    refine fl_getI (q := 52) dX3_answer_49 fX3_34 hb.len rfl rfl ?_
    refine fv_top (y := nI (frL T n r n).length) hS.1 ?_
    refine fv_iret dX3_answer_52 rfl rfl (Nat.le_refl _) ?_
    exact hPost _ _ _ ⟨by unfold ans; rw [if_pos h0], rfl, hf⟩
  have w1 : ¬ w = 0 → w = 1 → FV cX3_answer 3 (some .int) yX3_answer.cls yX3_answer.name 4 0 0 Post 0 0 53 [some (.ref b), some (.int (nI r)), some (.int w)] [] (lay D1 J1) := by
    intro h0 h1
    refine fv_aload_n (q := 54) dX3_answer_53 rfl rfl ?_
    refine fl_getI (q := 57) dX3_answer_54 fX3_38 hb.len rfl rfl ?_
    refine fv_top (y := nI (wl T (frL T n r n)).length) hS.2.1 ?_
    refine fv_iret dX3_answer_57 rfl rfl (Nat.le_refl _) ?_
    exact hPost _ _ _ ⟨by unfold ans; rw [if_neg h0, if_pos h1], rfl, hf⟩
  have w2 : ¬ w = 0 → ¬ w = 1 → w = 2 → FV cX3_answer 3 (some .int) yX3_answer.cls yX3_answer.name 4 0 0 Post 0 0 58 [some (.ref b), some (.int (nI r)), some (.int w)] [] (lay D1 J1) := by
    intro h0 h1 h2
    refine fv_aload_n (q := 59) dX3_answer_58 rfl rfl ?_
    refine fl_callVi (As := []) (q := 62) dX3_answer_59 gX3_105 rfl hb.len rfl rfl (Nat.le_of_ble_eq_true rfl) rfl (by decide) (c_sumSeen b hb D1 J1 _ _ hS hW) ?_
    refine fv_iret dX3_answer_62 rfl rfl (Nat.le_refl _) ?_
    exact hPost _ _ _ ⟨by unfold ans; rw [if_neg h0, if_neg h1, if_pos h2], rfl, hf⟩
  have w3 : ¬ w = 0 → ¬ w = 1 → ¬ w = 2 → w = 3 → FV cX3_answer 3 (some .int) yX3_answer.cls yX3_answer.name 4 0 0 Post 0 0 80 [some (.ref b), some (.int (nI r)), some (.int w)] [] (lay D1 J1) := by
    intro h0 h1 h2 h3
    refine fv_aload_n (q := 81) dX3_answer_80 rfl rfl ?_
    refine fv_iload_n (q := 82) dX3_answer_81 rfl rfl ?_
    refine fl_callV (As := [_]) (q := 85) dX3_answer_82 gX3_116 rfl hb.len rfl rfl (Nat.le_of_ble_eq_true rfl) rfl (by decide) (c_answerInOrder b hb D1 J1 _ _ hS hW w) (fun res D1 J1 hp => ?_)
    obtain ⟨rfl, rfl, hf2⟩ := hp
    refine fv_iret dX3_answer_85 rfl rfl (Nat.le_refl _) ?_
    refine hPost _ _ _ ⟨?_, rfl, fun a g0 g1 g2 => by rw [hf2 a g2]; exact hf a g0 g1 g2⟩
    unfold ans ansO
    rw [if_neg h0, if_neg h1, if_neg h2, if_pos h3, if_pos h3]
  have w4 : ¬ w = 0 → ¬ w = 1 → ¬ w = 2 → ¬ w = 3 → w = 4 → FV cX3_answer 3 (some .int) yX3_answer.cls yX3_answer.name 4 0 0 Post 0 0 80 [some (.ref b), some (.int (nI r)), some (.int w)] [] (lay D1 J1) := by
    intro h0 h1 h2 h3 h4
    refine fv_aload_n (q := 81) dX3_answer_80 rfl rfl ?_
    refine fv_iload_n (q := 82) dX3_answer_81 rfl rfl ?_
    refine fl_callV (As := [_]) (q := 85) dX3_answer_82 gX3_116 rfl hb.len rfl rfl (Nat.le_of_ble_eq_true rfl) rfl (by decide) (c_answerInOrder b hb D1 J1 _ _ hS hW w) (fun res D1 J1 hp => ?_)
    obtain ⟨rfl, rfl, hf2⟩ := hp
    refine fv_iret dX3_answer_85 rfl rfl (Nat.le_refl _) ?_
    refine hPost _ _ _ ⟨?_, rfl, fun a g0 g1 g2 => by rw [hf2 a g2]; exact hf a g0 g1 g2⟩
    unfold ans ansO
    rw [if_neg h0, if_neg h1, if_neg h2, if_neg h3, if_pos h4, if_neg h3, if_pos h4]
  have w5 : ¬ w = 0 → ¬ w = 1 → ¬ w = 2 → ¬ w = 3 → ¬ w = 4 → w = 5 → FV cX3_answer 3 (some .int) yX3_answer.cls yX3_answer.name 4 0 0 Post 0 0 63 [some (.ref b), some (.int (nI r)), some (.int w)] [] (lay D1 J1) := by
    intro h0 h1 h2 h3 h4 h5
    refine fv_aload_n (q := 64) dX3_answer_63 rfl rfl ?_
    refine fv_iconst (v := 0) (q := 65) dX3_answer_64 (by decide) rfl ?_
    refine fl_callVi (As := [_]) (q := 68) dX3_answer_65 gX3_113 rfl hb.len rfl rfl (Nat.le_of_ble_eq_true rfl) rfl (by decide) (c_wos b hb D1 J1 T n hT1 v _ _ hS hL hx 0 0 (fun h => ⟨rfl, h⟩)) ?_
    refine fv_iret dX3_answer_68 rfl rfl (Nat.le_refl _) ?_
    exact hPost _ _ _ ⟨by unfold ans; rw [if_neg h0, if_neg h1, if_neg h2, if_neg h3, if_neg h4, if_pos h5], rfl, hf⟩
  have w6 : ¬ w = 0 → ¬ w = 1 → ¬ w = 2 → ¬ w = 3 → ¬ w = 4 → ¬ w = 5 → w = 6 → FV cX3_answer 3 (some .int) yX3_answer.cls yX3_answer.name 4 0 0 Post 0 0 69 [some (.ref b), some (.int (nI r)), some (.int w)] [] (lay D1 J1) := by
    intro h0 h1 h2 h3 h4 h5 h6
    refine fv_aload_n (q := 70) dX3_answer_69 rfl rfl ?_
    refine fv_aload_n (q := 71) dX3_answer_70 rfl rfl ?_
    refine fl_getI (q := 74) dX3_answer_71 fX3_34 hb.len rfl rfl ?_
    refine fv_top (y := nI (frL T n r n).length) hS.1 ?_
    refine fv_iconst (v := 1) (q := 75) dX3_answer_74 (by decide) rfl ?_
    refine fv_isub (q := 76) dX3_answer_75 rfl ?_
    refine fl_callVi (As := [_]) (q := 79) dX3_answer_76 gX3_113 rfl hb.len rfl rfl (Nat.le_of_ble_eq_true rfl) rfl (by decide) (c_wos b hb D1 J1 T n hT1 v _ _ hS hL hx ((frL T n r n).length - 1) _ (fun h => ⟨pk_sub (b := 1) h, by omega⟩)) ?_
    refine fv_iret dX3_answer_79 rfl rfl (Nat.le_refl _) ?_
    exact hPost _ _ _ ⟨by unfold ans; rw [if_neg h0, if_neg h1, if_neg h2, if_neg h3, if_neg h4, if_neg h5, if_pos h6], rfl, hf⟩
  have wd : ¬ w = 0 → ¬ w = 1 → ¬ w = 2 → ¬ w = 3 → ¬ w = 4 → ¬ w = 5 → ¬ w = 6 → FV cX3_answer 3 (some .int) yX3_answer.cls yX3_answer.name 4 0 0 Post 0 0 80 [some (.ref b), some (.int (nI r)), some (.int w)] [] (lay D1 J1) := by
    intro h0 h1 h2 h3 h4 h5 h6
    refine fv_aload_n (q := 81) dX3_answer_80 rfl rfl ?_
    refine fv_iload_n (q := 82) dX3_answer_81 rfl rfl ?_
    refine fl_callV (As := [_]) (q := 85) dX3_answer_82 gX3_116 rfl hb.len rfl rfl (Nat.le_of_ble_eq_true rfl) rfl (by decide) (c_answerInOrder b hb D1 J1 _ _ hS hW w) (fun res D1 J1 hp => ?_)
    obtain ⟨rfl, rfl, hf2⟩ := hp
    refine fv_iret dX3_answer_85 rfl rfl (Nat.le_refl _) ?_
    refine hPost _ _ _ ⟨?_, rfl, fun a g0 g1 g2 => by rw [hf2 a g2]; exact hf a g0 g1 g2⟩
    unfold ans ansO
    rw [if_neg h0, if_neg h1, if_neg h2, if_neg h3, if_neg h4, if_neg h5, if_neg h6, if_neg h3, if_neg h4]
  by_cases h0 : w = 0
  · refine fv_top h0 ?_
    exact fv_tableIn 48 dX3_answer_6 (by decide) (by decide) rfl (by decide) (w0 h0)
  · skip
    by_cases h1 : w = 1
    · refine fv_top h1 ?_
      exact fv_tableIn 53 dX3_answer_6 (by decide) (by decide) rfl (by decide) (w1 h0 h1)
    · skip
      by_cases h2 : w = 2
      · refine fv_top h2 ?_
        exact fv_tableIn 58 dX3_answer_6 (by decide) (by decide) rfl (by decide) (w2 h0 h1 h2)
      · skip
        by_cases h3 : w = 3
        · refine fv_top h3 ?_
          exact fv_tableIn 80 dX3_answer_6 (by decide) (by decide) rfl (by decide) (w3 h0 h1 h2 h3)
        · skip
          by_cases h4 : w = 4
          · refine fv_top h4 ?_
            exact fv_tableIn 80 dX3_answer_6 (by decide) (by decide) rfl (by decide) (w4 h0 h1 h2 h3 h4)
          · skip
            by_cases h5 : w = 5
            · refine fv_top h5 ?_
              exact fv_tableIn 63 dX3_answer_6 (by decide) (by decide) rfl (by decide) (w5 h0 h1 h2 h3 h4 h5)
            · skip
              by_cases h6 : w = 6
              · refine fv_top h6 ?_
                exact fv_tableIn 69 dX3_answer_6 (by decide) (by decide) rfl (by decide) (w6 h0 h1 h2 h3 h4 h5 h6)
              · skip
                have k0 : (w).toInt ≠ 0 := fun z => h0 (by rw [fa_eq]; exact z)
                have k1 : (w).toInt ≠ 1 := fun z => h1 (by rw [fa_eq]; exact z)
                have k2 : (w).toInt ≠ 2 := fun z => h2 (by rw [fa_eq]; exact z)
                have k3 : (w).toInt ≠ 3 := fun z => h3 (by rw [fa_eq]; exact z)
                have k4 : (w).toInt ≠ 4 := fun z => h4 (by rw [fa_eq]; exact z)
                have k5 : (w).toInt ≠ 5 := fun z => h5 (by rw [fa_eq]; exact z)
                have k6 : (w).toInt ≠ 6 := fun z => h6 (by rw [fa_eq]; exact z)
                exact fv_tableOut 80 dX3_answer_6 (by omega) (by decide) (wd h0 h1 h2 h3 h4 h5 h6)
set_option maxHeartbeats 4000000 in
set_option maxRecDepth 100000 in
theorem c_sum (b : Nat) (hb : LenIx b) (D : Nat → Nat → Int32) (J : Nat → Nat → Int64) (T : Nat → Int32) (n : Nat) (hT : TabOf D (b + 2) T) (v : VT T n) (hO : OrdOf D b T n) (r : Nat) (hr : r < n) : FD yX3_sum cX3_sum 2 (some .int) 4 [.ref b, .int (nI r)] D J (fun res D' J' => res = some (.int (ans T n r 2)) ∧ J' = J ∧ ∀ a, a ≠ b → a ≠ b + 10 → a ≠ b + 11 → D' a = D a) := by
  refine FD.of (by decide) rfl (Nat.le_of_ble_eq_true rfl) (fun Post hPost => ?_)
  show FV _ _ _ _ _ _ _ _ _ _ _ _ [_, _] [] _
  refine fv_aload_n (q := 1) dX3_sum_0 rfl rfl ?_
  refine fv_iload_n (q := 2) dX3_sum_1 rfl rfl ?_
  refine fl_callV (As := [_]) (q := 5) dX3_sum_2 gX3_102 rfl hb.len rfl rfl (Nat.le_of_ble_eq_true rfl) rfl (by decide) (c_look b hb D J T n hT v hO r hr) (fun res D1 J1 hp => ?_)
  obtain ⟨rfl, rfl, hS, hf⟩ := hp
  refine fv_aload_n (q := 6) dX3_sum_5 rfl rfl ?_
  have hW : (wl T (frL T n r n)).length ≤ 40 := by have := frL_len T n r n; have := v.2.1; have := wl_len T (frL T n r n); omega
  refine fl_callVi (As := []) (q := 9) dX3_sum_6 gX3_105 rfl hb.len rfl rfl (Nat.le_of_ble_eq_true rfl) rfl (by decide) (c_sumSeen b hb D1 J1 _ _ hS hW) ?_
  refine fv_iret dX3_sum_9 rfl rfl (Nat.le_refl _) ?_
  exact hPost _ _ _ ⟨rfl, rfl, hf⟩
def rwI (L : List Nat) (k : Int32) : Int32 := if k < 0 then -1 else if nI L.length ≤ k then -1 else nI (L.getD k.toNatClampNeg 0)
set_option maxHeartbeats 4000000 in
set_option maxRecDepth 100000 in
theorem c_rowAt (b : Nat) (hb : LenIx b) (D : Nat → Nat → Int32) (J : Nat → Nat → Int64) (T : Nat → Int32) (n : Nat) (hT : TabOf D (b + 2) T) (v : VT T n) (hO : OrdOf D b T n) (r : Nat) (hr : r < n) (k : Int32) : FD yX3_rowAt cX3_rowAt 3 (some .int) 4 [.ref b, .int (nI r), .int k] D J (fun res D' J' => res = some (.int (rwI (frL T n r n) k)) ∧ J' = J ∧ ∀ a, a ≠ b → a ≠ b + 10 → a ≠ b + 11 → D' a = D a) := by
  refine FD.of (by decide) rfl (Nat.le_of_ble_eq_true rfl) (fun Post hPost => ?_)
  show FV _ _ _ _ _ _ _ _ _ _ _ _ [_, _, _] [] _
  refine fv_aload_n (q := 1) dX3_rowAt_0 rfl rfl ?_
  refine fv_iload_n (q := 2) dX3_rowAt_1 rfl rfl ?_
  refine fl_callV (As := [_]) (q := 5) dX3_rowAt_2 gX3_102 rfl hb.len rfl rfl (Nat.le_of_ble_eq_true rfl) rfl (by decide) (c_look b hb D J T n hT v hO r hr) (fun res D1 J1 hp => ?_)
  obtain ⟨rfl, rfl, hS, hf⟩ := hp
  refine fv_iload_n (q := 6) dX3_rowAt_5 rfl rfl ?_
  refine fv_if_lt (q := 9) 26 dX3_rowAt_6 (by decide) rfl (fun c6 => ?_) (fun c6 => ?_)
  · refine fv_iconst (v := (-1)) (q := 27) dX3_rowAt_26 (by decide) rfl ?_
    refine fv_iret dX3_rowAt_27 rfl rfl (Nat.le_refl _) ?_
    exact hPost _ _ _ ⟨by unfold rwI; rw [if_pos c6], rfl, hf⟩
  · refine fv_iload_n (q := 10) dX3_rowAt_9 rfl rfl ?_
    refine fv_aload_n (q := 11) dX3_rowAt_10 rfl rfl ?_
    refine fl_getI (q := 14) dX3_rowAt_11 fX3_34 hb.len rfl rfl ?_
    refine fv_top (y := nI (frL T n r n).length) hS.1 ?_
    have hL : (frL T n r n).length ≤ 40 := by have := frL_len T n r n; have := v.2.1; omega
    refine fv_icmp_ge (q := 17) 26 dX3_rowAt_14 (by decide) rfl (fun c14 => ?_) (fun c14 => ?_)
    · refine fv_iconst (v := (-1)) (q := 27) dX3_rowAt_26 (by decide) rfl ?_
      refine fv_iret dX3_rowAt_27 rfl rfl (Nat.le_refl _) ?_
      exact hPost _ _ _ ⟨by unfold rwI; rw [if_neg c6, if_pos c14], rfl, hf⟩
    · obtain ⟨j, hj, rfl⟩ : ∃ j, j < (frL T n r n).length ∧ k = nI j := by
        obtain ⟨j, h1, h2⟩ := nI_of c6
        rw [h2, nI_leI (by omega) h1] at c14
        exact ⟨j, by omega, h2⟩
      refine fv_aload_n (q := 18) dX3_rowAt_17 rfl rfl ?_
      refine fl_getR (q := 21) dX3_rowAt_18 fX3_23 hb.len rfl rfl ?_
      refine fv_iload_n (q := 22) dX3_rowAt_21 rfl rfl ?_
      refine fl_iald (q := 23) _ dX3_rowAt_22 hb.arr.2.2.2.2.1 (by decide) rfl (by omega) rfl ?_
      refine fv_top (holN_get hS.2.2.1 hj 0) ?_
      refine fv_goto 27 dX3_rowAt_23 (by decide) ?_
      refine fv_iret dX3_rowAt_27 rfl rfl (Nat.le_refl _) ?_
      exact hPost _ _ _ ⟨by unfold rwI; rw [if_neg c6, if_neg c14, nI_clamp (by omega)], rfl, hf⟩
set_option maxHeartbeats 4000000 in
set_option maxRecDepth 100000 in
theorem c_set (b : Nat) (hb : LenIx b) (D : Nat → Nat → Int32) (J : Nat → Nat → Int64) (T : Nat → Int32) (n : Nat) (hT : TabOf D (b + 2) T) (v : VT T n) (hO : OrdOf D b T n) (r : Nat) (hr : r < n) : FD yX3_set cX3_set 5 (some .long) 4 [.ref b, .int (nI r)] D J (fun res D' J' => res = some (.long (stF T n r)) ∧ J' = J ∧ ∀ a, a ≠ b → a ≠ b + 10 → a ≠ b + 11 → D' a = D a) := by
  refine FD.of (by decide) rfl (Nat.le_of_ble_eq_true rfl) (fun Post hPost => ?_)
  show FV _ _ _ _ _ _ _ _ _ _ _ _ [_, _, _, _, _] [] _
  refine fv_aload_n (q := 1) dX3_set_0 rfl rfl ?_
  refine fv_iload_n (q := 2) dX3_set_1 rfl rfl ?_
  refine fl_callV (As := [_]) (q := 5) dX3_set_2 gX3_102 rfl hb.len rfl rfl (Nat.le_of_ble_eq_true rfl) rfl (by decide) (c_look b hb D J T n hT v hO r hr) (fun res D1 J1 hp => ?_)
  obtain ⟨rfl, rfl, hS, hf⟩ := hp
  have hL : (frL T n r n).length ≤ 40 := by have := frL_len T n r n; have := v.2.1; omega
  refine fv_lconst (v := 0) (q := 6) dX3_set_5 (by decide) rfl ?_
  refine fv_lstore_n (i := 2) (q := 7) (l' := [_, _, _, _, _]) dX3_set_6 rfl (by decide) rfl rfl rfl ?_
  refine fv_iconst (v := 0) (q := 8) dX3_set_7 (by decide) rfl ?_
  refine fv_istore (q := 10) (l' := [_, _, _, _, _]) dX3_set_8 (by decide) rfl rfl rfl ?_
  have loop : ∀ i, i ≤ (frL T n r n).length → FV cX3_set 5 (some .long) yX3_set.cls yX3_set.name 4 0 0 Post 0 0 10 [some (.ref b), some (.int (nI r)), some (.long (stL ((frL T n r n).take i))), none, some (.int (nI i))] [] (lay D1 J1) := by
    refine up_ind (fun i hi ih => ?_)
    refine fv_iload (q := 12) dX3_set_10 rfl rfl ?_
    refine fv_aload_n (q := 13) dX3_set_12 rfl rfl ?_
    refine fl_getI (q := 16) dX3_set_13 fX3_34 hb.len rfl rfl ?_
    refine fv_top (y := nI (frL T n r n).length) hS.1 ?_
    refine fv_icmp_ge (q := 19) 37 dX3_set_16 (by decide) rfl (fun c16 => ?_) (fun c16 => ?_)
    · rw [nI_leI (by omega) (by omega)] at c16
      have hin : i = (frL T n r n).length := by omega
      refine fv_lload_n (q := 38) dX3_set_37 rfl rfl ?_
      refine fv_lret dX3_set_38 rfl rfl (Nat.le_refl _) ?_
      rw [hin, List.take_length]
      exact hPost _ _ _ ⟨rfl, rfl, hf⟩
    · rw [nI_leI (by omega) (by omega)] at c16
      refine fv_lload_n (q := 20) dX3_set_19 rfl rfl ?_
      refine fv_lconst (v := 1) (q := 21) dX3_set_20 (by decide) rfl ?_
      refine fv_aload_n (q := 22) dX3_set_21 rfl rfl ?_
      refine fl_getR (q := 25) dX3_set_22 fX3_23 hb.len rfl rfl ?_
      refine fv_iload (q := 27) dX3_set_25 rfl rfl ?_
      refine fl_iald (q := 28) _ dX3_set_27 hb.arr.2.2.2.2.1 (by decide) rfl (by omega) rfl ?_
      refine fv_top (holN_get hS.2.2.1 (by omega) 0) ?_
      refine fv_lshl (q := 29) dX3_set_28 rfl ?_
      refine fv_lor (q := 30) dX3_set_29 rfl ?_
      refine fv_topl (stL_take (frL T n r n) (by omega)).symm ?_
      refine fv_lstore_n (i := 2) (q := 31) (l' := [_, _, _, _, _]) dX3_set_30 rfl (by decide) rfl rfl rfl ?_
      refine fv_iinc (v := _ + 1) (q := 34) (l' := [_, _, _, _, _]) dX3_set_31 rfl rfl (by decide) rfl rfl rfl ?_
      refine fv_goto 10 dX3_set_34 (by decide) ?_
      rw [nI_1]
      exact ih (by omega)
  exact loop 0 (Nat.zero_le _)
set_option maxHeartbeats 4000000 in
set_option maxRecDepth 100000 in
theorem c_setO (b : Nat) (hb : LenIx b) (D : Nat → Nat → Int32) (J : Nat → Nat → Int64) (n : Nat) (hn : D (b + 2) 3 = nI n) (k : Int32) (hk : k < 0 ∨ nI n ≤ k) : FD yX3_set cX3_set 5 (some .long) 4 [.ref b, .int k] D J (fun res D' J' => res = some (.long (0)) ∧ J' = J ∧ ∀ a, a ≠ b → D' a = D a) := by
  refine FD.of (by decide) rfl (Nat.le_of_ble_eq_true rfl) (fun Post hPost => ?_)
  show FV _ _ _ _ _ _ _ _ _ _ _ _ [_, _, _, _, _] [] _
  refine fv_aload_n (q := 1) dX3_set_0 rfl rfl ?_
  refine fv_iload_n (q := 2) dX3_set_1 rfl rfl ?_
  refine fl_callV (As := [_]) (q := 5) dX3_set_2 gX3_102 rfl hb.len rfl rfl (Nat.le_of_ble_eq_true rfl) rfl (by decide) (c_lookO b hb D J n hn k hk) (fun res D1 J1 hp => ?_)
  obtain ⟨rfl, rfl, hS, hf⟩ := hp
  have hL : ([] : List Nat).length ≤ 40 := by decide
  refine fv_lconst (v := 0) (q := 6) dX3_set_5 (by decide) rfl ?_
  refine fv_lstore_n (i := 2) (q := 7) (l' := [_, _, _, _, _]) dX3_set_6 rfl (by decide) rfl rfl rfl ?_
  refine fv_iconst (v := 0) (q := 8) dX3_set_7 (by decide) rfl ?_
  refine fv_istore (q := 10) (l' := [_, _, _, _, _]) dX3_set_8 (by decide) rfl rfl rfl ?_
  have loop : ∀ i, i ≤ (([] : List Nat)).length → FV cX3_set 5 (some .long) yX3_set.cls yX3_set.name 4 0 0 Post 0 0 10 [some (.ref b), some (.int k), some (.long (stL ((([] : List Nat)).take i))), none, some (.int (nI i))] [] (lay D1 J1) := by
    refine up_ind (fun i hi ih => ?_)
    refine fv_iload (q := 12) dX3_set_10 rfl rfl ?_
    refine fv_aload_n (q := 13) dX3_set_12 rfl rfl ?_
    refine fl_getI (q := 16) dX3_set_13 fX3_34 hb.len rfl rfl ?_
    refine fv_top (y := nI (([] : List Nat)).length) hS.1 ?_
    refine fv_icmp_ge (q := 19) 37 dX3_set_16 (by decide) rfl (fun c16 => ?_) (fun c16 => ?_)
    · rw [nI_leI (by omega) (by omega)] at c16
      have hin : i = (([] : List Nat)).length := by omega
      refine fv_lload_n (q := 38) dX3_set_37 rfl rfl ?_
      refine fv_lret dX3_set_38 rfl rfl (Nat.le_refl _) ?_
      rw [List.take_nil]
      exact hPost _ _ _ ⟨rfl, rfl, hf⟩
    · rw [nI_leI (by omega) (by omega)] at c16
      refine fv_lload_n (q := 20) dX3_set_19 rfl rfl ?_
      refine fv_lconst (v := 1) (q := 21) dX3_set_20 (by decide) rfl ?_
      refine fv_aload_n (q := 22) dX3_set_21 rfl rfl ?_
      refine fl_getR (q := 25) dX3_set_22 fX3_23 hb.len rfl rfl ?_
      refine fv_iload (q := 27) dX3_set_25 rfl rfl ?_
      refine fl_iald (q := 28) _ dX3_set_27 hb.arr.2.2.2.2.1 (by decide) rfl (by omega) rfl ?_
      refine fv_top (holN_get hS.2.2.1 (by omega) 0) ?_
      refine fv_lshl (q := 29) dX3_set_28 rfl ?_
      refine fv_lor (q := 30) dX3_set_29 rfl ?_
      refine fv_topl (stL_take (([] : List Nat)) (by omega)).symm ?_
      refine fv_lstore_n (i := 2) (q := 31) (l' := [_, _, _, _, _]) dX3_set_30 rfl (by decide) rfl rfl rfl ?_
      refine fv_iinc (v := _ + 1) (q := 34) (l' := [_, _, _, _, _]) dX3_set_31 rfl rfl (by decide) rfl rfl rfl ?_
      refine fv_goto 10 dX3_set_34 (by decide) ?_
      rw [nI_1]
      exact ih (by omega)
  exact loop 0 (Nat.zero_le _)
set_option maxHeartbeats 4000000 in
set_option maxRecDepth 100000 in
theorem c_rowsAll (b : Nat) (hb : LenIx b) (D : Nat → Nat → Int32) (J : Nat → Nat → Int64) (T : Nat → Int32) (n : Nat) (hT : TabOf D (b + 2) T) (v : VT T n) (hO : OrdOf D b T n) : FD yX3_rowsOfAllFrames cX3_rowsOfAllFrames 3 (some .int) 4 [.ref b] D J (fun res D' J' => res = some (.int (nI (fb_sm (fun r => (frL T n r n).length) n))) ∧ J' = J ∧ ∀ a, a ≠ b → a ≠ b + 10 → a ≠ b + 11 → D' a = D a) := by
  refine FD.of (by decide) rfl (Nat.le_of_ble_eq_true rfl) (fun Post hPost => ?_)
  show FV _ _ _ _ _ _ _ _ _ _ _ _ [_, _, _] [] _
  have h40 := v.2.1
  have loop : ∀ i, i ≤ n → ∀ E : Nat → Nat → Int32, (∀ a, a ≠ b → a ≠ b + 10 → a ≠ b + 11 → E a = D a) → FV cX3_rowsOfAllFrames 3 (some .int) yX3_rowsOfAllFrames.cls yX3_rowsOfAllFrames.name 4 0 0 Post 0 0 4 [some (.ref b), some (.int (nI (fb_sm (fun r => (frL T n r n).length) i))), some (.int (nI i))] [] (lay E J) := by
    refine up_ind (fun i hi ih => ?_)
    intro E hf
    refine fv_iload_n (q := 5) dX3_rowsOfAllFrames_4 rfl rfl ?_
    refine fv_aload_n (q := 6) dX3_rowsOfAllFrames_5 rfl rfl ?_
    refine fl_getR (q := 9) dX3_rowsOfAllFrames_6 fX3_22 hb.len rfl rfl ?_
    refine fl_getI (q := 12) dX3_rowsOfAllFrames_9 fX3_65 hb.tab.sh.1 rfl rfl ?_
    refine fv_top (y := nI n) (by rw [hf _ (by omega) (by omega) (by omega)]; exact hT.n v) ?_
    refine fv_icmp_ge (q := 15) 33 dX3_rowsOfAllFrames_12 (by decide) rfl (fun c12 => ?_) (fun c12 => ?_)
    · rw [nI_leI (by omega) (by omega)] at c12
      have hin : i = n := by omega
      subst hin
      refine fv_iload_n (q := 34) dX3_rowsOfAllFrames_33 rfl rfl ?_
      refine fv_iret dX3_rowsOfAllFrames_34 rfl rfl (Nat.le_refl _) ?_
      exact hPost _ _ _ ⟨rfl, rfl, hf⟩
    · rw [nI_leI (by omega) (by omega)] at c12
      have hTE : TabOf E (b + 2) T := hT.of (hf _ (by omega) (by omega) (by omega)) (hf _ (by omega) (by omega) (by omega)) (hf _ (by omega) (by omega) (by omega)) (hf _ (by omega) (by omega) (by omega))
      have hOE : OrdOf E b T n := hO.of (hf _ (by omega) (by omega) (by omega)) (hf _ (by omega) (by omega) (by omega)) (hf _ (by omega) (by omega) (by omega)) (hf _ (by omega) (by omega) (by omega))
      refine fv_aload_n (q := 16) dX3_rowsOfAllFrames_15 rfl rfl ?_
      refine fv_iload_n (q := 17) dX3_rowsOfAllFrames_16 rfl rfl ?_
      refine fl_callV (As := [_]) (q := 20) dX3_rowsOfAllFrames_17 gX3_102 rfl hb.len rfl rfl (Nat.le_of_ble_eq_true rfl) rfl (by decide) (c_look b hb E J T n hTE v hOE i (by omega)) (fun res D1 J1 hp => ?_)
      obtain ⟨rfl, rfl, hS, hf2⟩ := hp
      refine fv_iload_n (q := 21) dX3_rowsOfAllFrames_20 rfl rfl ?_
      refine fv_aload_n (q := 22) dX3_rowsOfAllFrames_21 rfl rfl ?_
      refine fl_getI (q := 25) dX3_rowsOfAllFrames_22 fX3_34 hb.len rfl rfl ?_
      refine fv_top (y := nI (frL T n i n).length) hS.1 ?_
      refine fv_iadd (q := 26) dX3_rowsOfAllFrames_25 rfl ?_
      refine fv_top (y := nI (fb_sm (fun r => (frL T n r n).length) (i + 1))) (by rw [nI_add, fb_sm_succ]) ?_
      refine fv_istore_n (i := 1) (q := 27) (l' := [_, _, _]) dX3_rowsOfAllFrames_26 rfl (by decide) rfl rfl rfl ?_
      refine fv_iinc (v := _ + 1) (q := 30) (l' := [_, _, _]) dX3_rowsOfAllFrames_27 rfl rfl (by decide) rfl rfl rfl ?_
      refine fv_goto 4 dX3_rowsOfAllFrames_30 (by decide) ?_
      rw [nI_1]
      exact ih (by omega) D1 (fun a g0 g1 g2 => by rw [hf2 a g0 g1 g2]; exact hf a g0 g1 g2)
  refine fv_iconst (v := 0) (q := 1) dX3_rowsOfAllFrames_0 (by decide) rfl ?_
  refine fv_istore_n (i := 1) (q := 2) (l' := [_, _, _]) dX3_rowsOfAllFrames_1 rfl (by decide) rfl rfl rfl ?_
  refine fv_iconst (v := 0) (q := 3) dX3_rowsOfAllFrames_2 (by decide) rfl ?_
  refine fv_istore_n (i := 2) (q := 4) (l' := [_, _, _]) dX3_rowsOfAllFrames_3 rfl (by decide) rfl rfl rfl ?_
  exact loop 0 (Nat.zero_le _) D (fun _ _ _ _ => rfl)
theorem lcmp_0 (x y : Int64) : lg_cmp x y = 0 ↔ x = y := by
  unfold lg_cmp
  constructor
  · intro h
    by_cases h1 : y < x
    · simp [h1] at h
    · by_cases h2 : x = y
      · exact h2
      · simp [h1, h2] at h
  · rintro rfl
    simp
set_option maxHeartbeats 4000000 in
set_option maxRecDepth 100000 in
theorem c_alike (b : Nat) (hb : LenIx b) (D : Nat → Nat → Int32) (J : Nat → Nat → Int64) (T : Nat → Int32) (n : Nat) (hT : TabOf D (b + 2) T) (v : VT T n) (hO : OrdOf D b T n) : FD yX3_alikePairs cX3_alikePairs 4 (some .int) 5 [.ref b] D J (fun res D' J' => res = some (.int (nI (alk T n n))) ∧ (∀ a, a ≠ b → a ≠ b + 10 → a ≠ b + 11 → D' a = D a) ∧ ∀ a, a ≠ b + 12 → J' a = J a) := by
  refine FD.of (by decide) rfl (Nat.le_of_ble_eq_true rfl) (fun Post hPost => ?_)
  show FV _ _ _ _ _ _ _ _ _ _ _ _ [_, _, _, _] [] _
  have h40 := v.2.1
  have inn : ∀ i, i < n → (i < n → ∀ (l3 : Option Value) (J2 : Nat → Nat → Int64) (E : Nat → Nat → Int32), (∀ a, a ≠ b → a ≠ b + 10 → a ≠ b + 11 → E a = D a) → (∀ a, a ≠ b + 12 → J2 a = J a) → (∀ k, k < (i + 1) → J2 (b + 12) k = stF T n k) → FV cX3_alikePairs 4 (some .int) yX3_alikePairs.cls yX3_alikePairs.name 5 0 0 Post 0 0 4 [some (.ref b), some (.int (nI (alk T n (i + 1)))), some (.int (nI (i + 1))), l3] [] (lay E J2)) → ∀ (J1 : Nat → Nat → Int64) (E : Nat → Nat → Int32), (∀ a, a ≠ b → a ≠ b + 10 → a ≠ b + 11 → E a = D a) → (∀ a, a ≠ b + 12 → J1 a = J a) → (∀ k, k < i + 1 → J1 (b + 12) k = stF T n k) → ∀ j, j ≤ i → FV cX3_alikePairs 4 (some .int) yX3_alikePairs.cls yX3_alikePairs.name 5 0 0 Post 0 0 28 [some (.ref b), some (.int (nI (alk T n i + fb_ct (fun e => decide (stF T n e = stF T n i)) j))), some (.int (nI i)), some (.int (nI j))] [] (lay E J1) := by
    intro i hin ih J1 E hf hJf hJ
    refine up_ind (fun j hj ih2 => ?_)
    refine fv_iload_n (q := 29) dX3_alikePairs_28 rfl rfl ?_
    refine fv_iload_n (q := 30) dX3_alikePairs_29 rfl rfl ?_
    refine fv_icmp_ge (q := 33) 58 dX3_alikePairs_30 (by decide) rfl (fun c30 => ?_) (fun c30 => ?_)
    · rw [nI_leI (by omega) (by omega)] at c30
      have hjn : j = i := by omega
      subst hjn
      refine fv_iinc (v := _ + 1) (q := 61) (l' := [_, _, _, _]) dX3_alikePairs_58 rfl rfl (by decide) rfl rfl rfl ?_
      refine fv_goto 4 dX3_alikePairs_61 (by decide) ?_
      have e9 : alk T n j + fb_ct (fun e => decide (stF T n e = stF T n j)) j = alk T n (j + 1) := by unfold alk; rw [fb_sm_succ]
      rw [nI_1, e9]
      exact ih (by omega) _ J1 E hf hJf hJ
    · rw [nI_leI (by omega) (by omega)] at c30
      refine fv_aload_n (q := 34) dX3_alikePairs_33 rfl rfl ?_
      refine fl_getR (q := 37) dX3_alikePairs_34 fX3_30 hb.len rfl rfl ?_
      refine fv_iload_n (q := 38) dX3_alikePairs_37 rfl rfl ?_
      refine fl_lald (q := 39) _ dX3_alikePairs_38 hb.arr.2.2.2.2.2.2 (by decide) rfl (by omega) rfl ?_
      refine fv_topl (hJ j (by omega)) ?_
      refine fv_aload_n (q := 40) dX3_alikePairs_39 rfl rfl ?_
      refine fl_getR (q := 43) dX3_alikePairs_40 fX3_30 hb.len rfl rfl ?_
      refine fv_iload_n (q := 44) dX3_alikePairs_43 rfl rfl ?_
      refine fl_lald (q := 45) _ dX3_alikePairs_44 hb.arr.2.2.2.2.2.2 (by decide) rfl (by omega) rfl ?_
      refine fv_topl (hJ i (by omega)) ?_
      refine fv_lcmp (q := 46) dX3_alikePairs_45 rfl ?_
      refine fv_if_ne (q := 49) 52 dX3_alikePairs_46 (by decide) rfl (fun c46 => ?_) (fun c46 => ?_)
      · rw [lcmp_0] at c46
        refine fv_iinc (v := _ + 1) (q := 55) (l' := [_, _, _, _]) dX3_alikePairs_52 rfl rfl (by decide) rfl rfl rfl ?_
        refine fv_goto 28 dX3_alikePairs_55 (by decide) ?_
        have hp : ¬ (fun e => decide (stF T n e = stF T n i)) j = true := by simpa using c46
        have h9 := ih2 (by omega)
        rw [fb_ct_succ, if_neg hp, Nat.add_zero] at h9
        rw [nI_1]
        exact h9
      · rw [lcmp_0] at c46
        refine fv_iinc (v := _ + 1) (q := 52) (l' := [_, _, _, _]) dX3_alikePairs_49 rfl rfl (by decide) rfl rfl rfl ?_
        refine fv_iinc (v := _ + 1) (q := 55) (l' := [_, _, _, _]) dX3_alikePairs_52 rfl rfl (by decide) rfl rfl rfl ?_
        refine fv_goto 28 dX3_alikePairs_55 (by decide) ?_
        have hp : (fun e => decide (stF T n e = stF T n i)) j = true := by simpa using c46
        have h9 := ih2 (by omega)
        rw [fb_ct_succ, if_pos hp, ← Nat.add_assoc] at h9
        rw [nI_1, nI_1]
        exact h9
  have loop : ∀ i, i ≤ n → ∀ (l3 : Option Value) (J2 : Nat → Nat → Int64) (E : Nat → Nat → Int32), (∀ a, a ≠ b → a ≠ b + 10 → a ≠ b + 11 → E a = D a) → (∀ a, a ≠ b + 12 → J2 a = J a) → (∀ k, k < i → J2 (b + 12) k = stF T n k) → FV cX3_alikePairs 4 (some .int) yX3_alikePairs.cls yX3_alikePairs.name 5 0 0 Post 0 0 4 [some (.ref b), some (.int (nI (alk T n i))), some (.int (nI i)), l3] [] (lay E J2) := by
    refine up_ind (fun i hi ih => ?_)
    intro l3 J2 E hf hJf hJ
    refine fv_iload_n (q := 5) dX3_alikePairs_4 rfl rfl ?_
    refine fv_aload_n (q := 6) dX3_alikePairs_5 rfl rfl ?_
    refine fl_getR (q := 9) dX3_alikePairs_6 fX3_22 hb.len rfl rfl ?_
    refine fl_getI (q := 12) dX3_alikePairs_9 fX3_65 hb.tab.sh.1 rfl rfl ?_
    refine fv_top (y := nI n) (by rw [hf _ (by omega) (by omega) (by omega)]; exact hT.n v) ?_
    refine fv_icmp_ge (q := 15) 64 dX3_alikePairs_12 (by decide) rfl (fun c12 => ?_) (fun c12 => ?_)
    · rw [nI_leI (by omega) (by omega)] at c12
      have hin : i = n := by omega
      subst hin
      refine fv_iload_n (q := 65) dX3_alikePairs_64 rfl rfl ?_
      refine fv_iret dX3_alikePairs_65 rfl rfl (Nat.le_refl _) ?_
      exact hPost _ _ _ ⟨rfl, hf, hJf⟩
    · rw [nI_leI (by omega) (by omega)] at c12
      have hTE : TabOf E (b + 2) T := hT.of (hf _ (by omega) (by omega) (by omega)) (hf _ (by omega) (by omega) (by omega)) (hf _ (by omega) (by omega) (by omega)) (hf _ (by omega) (by omega) (by omega))
      have hOE : OrdOf E b T n := hO.of (hf _ (by omega) (by omega) (by omega)) (hf _ (by omega) (by omega) (by omega)) (hf _ (by omega) (by omega) (by omega)) (hf _ (by omega) (by omega) (by omega))
      refine fv_aload_n (q := 16) dX3_alikePairs_15 rfl rfl ?_
      refine fl_getR (q := 19) dX3_alikePairs_16 fX3_30 hb.len rfl rfl ?_
      refine fv_iload_n (q := 20) dX3_alikePairs_19 rfl rfl ?_
      refine fv_aload_n (q := 21) dX3_alikePairs_20 rfl rfl ?_
      refine fv_iload_n (q := 22) dX3_alikePairs_21 rfl rfl ?_
      refine fl_callV (As := [_]) (q := 25) dX3_alikePairs_22 gX3_109 rfl hb.len rfl rfl (Nat.le_of_ble_eq_true rfl) rfl (by decide) (c_set b hb E J2 T n hTE v hOE i (by omega)) (fun res D1 J1 hp => ?_)
      obtain ⟨rfl, rfl, hf2⟩ := hp
      refine fl_last (q := 26) _ dX3_alikePairs_25 hb.arr.2.2.2.2.2.2 (by decide) rfl (by omega) rfl ?_
      refine fv_iconst (v := 0) (q := 27) dX3_alikePairs_26 (by decide) rfl ?_
      refine fv_istore_n (i := 3) (q := 28) (l' := [_, _, _, _]) dX3_alikePairs_27 rfl (by decide) rfl rfl rfl ?_
      exact inn i (by omega) ih _ _ (fun a g0 g1 g2 => by rw [hf2 a g0 g1 g2]; exact hf a g0 g1 g2) (fun a ha => by rw [uj_n _ _ _ ha]; exact hJf a ha) (fun k hk => by
        rw [uj_s]
        by_cases q : k = i
        · subst q; rw [pk_uLs]
        · rw [pk_uLn q]; exact hJ k (by omega)) 0 (Nat.zero_le _)
  refine fv_iconst (v := 0) (q := 1) dX3_alikePairs_0 (by decide) rfl ?_
  refine fv_istore_n (i := 1) (q := 2) (l' := [_, _, _, _]) dX3_alikePairs_1 rfl (by decide) rfl rfl rfl ?_
  refine fv_iconst (v := 0) (q := 3) dX3_alikePairs_2 (by decide) rfl ?_
  refine fv_istore_n (i := 2) (q := 4) (l' := [_, _, _, _]) dX3_alikePairs_3 rfl (by decide) rfl rfl rfl ?_
  exact loop 0 (Nat.zero_le _) _ J D (fun _ _ _ _ => rfl) (fun _ _ => rfl) (fun k hk => absurd hk (Nat.not_lt_zero _))
