theorem past_drop {D E : Nat → Nat → Int32} {P : List (Nat → Int32)} {c : Nat} (hP : PastM D P) (hc : c ≤ P.length) (h0 : E 124 3 = nI (P.length - c)) (h1 : E 127 = D 127) : PastM E (P.drop c) := by
  have h20 := hP.2.1
  refine ⟨by rw [List.length_drop]; exact h0, by rw [List.length_drop]; omega, fun j U hj x hx => ?_⟩
  rw [List.getElem?_drop] at hj
  have hk := (List.getElem?_eq_some_iff.mp hj).1
  have h9 := hP.2.2 (c + j) U hj x hx
  rw [h1, List.length_drop, show P.length - c - 1 - j = P.length - 1 - (c + j) by omega]
  exact h9
theorem MR.mk' {D : Nat → Nat → Int32} {T : Nat → Int32} {n : Nat} {P : List (Nat → Int32)} {I : Nat → Option ((Nat → Int32) × Int32)} {B : List (Nat × Int32 × Int32)} {s : Int32} (h1 : MT D 125 T) (h2 : PastM D P) (h3 : ImgM D I) (h4 : BookM D B) (h5 : D 124 6 = s) : MR D (T, n, P, I, B, s) := ⟨h1, h2, h3, h4, h5⟩
theorem f_undo_s {T : Nat → Int32} {n : Nat} {P : List (Nat → Int32)} {I : Nat → Option ((Nat → Int32) × Int32)} {B : List (Nat × Int32 × Int32)} {s k : Int32} {c : Nat} {U : Nat → Int32} (h : wth k 1 20 = true) (hc : k.toNatClampNeg = c) (hU : P[c - 1]? = some U) : f_undo (T, n, P, I, B, s) k = (U 0, (U, (U 0).toNatClampNeg, P.drop c, I, B, s)) := by
  unfold f_undo
  rw [if_neg (by rw [h]; decide), hc]
  show (match P[c - 1]? with | none => _ | some T => _) = _
  rw [hU]
theorem f_undo_n {T : Nat → Int32} {n : Nat} {P : List (Nat → Int32)} {I : Nat → Option ((Nat → Int32) × Int32)} {B : List (Nat × Int32 × Int32)} {s k : Int32} {c : Nat} (h : wth k 1 20 = true) (hc : k.toNatClampNeg = c) (hU : P[c - 1]? = none) : f_undo (T, n, P, I, B, s) k = (-1000000003, (T, n, P, I, B, s)) := by
  unfold f_undo
  rw [if_neg (by rw [h]; decide), hc]
  show (match P[c - 1]? with | none => _ | some T => _) = _
  rw [hU]
set_option maxHeartbeats 4000000 in
set_option maxRecDepth 100000 in
theorem m_undo (D : Nat → Nat → Int32) (J : Nat → Nat → Int64) (σ : Sg) (hX : MR D σ) (ok : SgOk σ) (k : Int32) : FD yX7_undo cX7_undo 2 (some .int) 1 [.ref 124, .int k] D J (fun res D' J' => res = some (.int (f_undo σ k).1) ∧ MR D' (f_undo σ k).2 ∧ KM D D' J J') := by
  refine FD.of (by decide) rfl (Nat.le_of_ble_eq_true rfl) (fun Post hPost => ?_)
  show FV _ _ _ _ _ _ _ _ _ _ _ _ [_, _] [] _
  obtain ⟨T, n, P, I, B, s⟩ := σ
  have hM : MT D 125 T := hX.1
  have hP : PastM D P := hX.2.1
  have hI : ImgM D I := hX.2.2.1
  have hB : BookM D B := hX.2.2.2.1
  have hs : D 124 6 = s := hX.2.2.2.2
  have v : VT T n := ok.1
  have h40 := v.2.1
  refine fv_iload_n (q := 1) dX7_undo_0 rfl rfl ?_
  refine fv_iconst (v := 1) (q := 2) dX7_undo_1 (by decide) rfl ?_
  refine fv_bipush (v := 20) (q := 4) dX7_undo_2 (by decide) rfl ?_
  refine fl_callSi (As := [_, _, _]) (q := 7) dX7_undo_4 gX7_120 rfl rfl (Nat.le_of_ble_eq_true rfl) rfl (by decide) (m_in D J k 1 20) ?_
  refine fv_if_ne (q := 10) 13 dX7_undo_7 (by decide) rfl (fun c7 => ?_) (fun c7 => ?_)
  · rw [bi_n'] at c7
    obtain ⟨c, hc1, hc2, hkc, hcc⟩ := wth_n (a := 1) (b := 20) c7 (by decide) (by decide)
    subst hkc
    refine fv_iload_n (q := 14) dX7_undo_13 rfl rfl ?_
    refine fv_aload_n (q := 15) dX7_undo_14 rfl rfl ?_
    refine fl_getI (q := 18) dX7_undo_15 fX7_154 sh124 rfl rfl ?_
    refine fv_top (y := nI P.length) hP.1 ?_
    have h20 := hP.2.1
    refine fv_icmp_le (q := 21) 24 dX7_undo_18 (by decide) rfl (fun c18 => ?_) (fun c18 => ?_)
    · rw [nI_leI (by omega) (by omega)] at c18
      obtain ⟨U, hU⟩ : ∃ U, P[c - 1]? = some U := ⟨_, List.getElem?_eq_getElem (by omega)⟩
      refine fv_aload_n (q := 25) dX7_undo_24 rfl rfl ?_
      refine fv_dup (q := 26) dX7_undo_25 rfl rfl ?_
      refine fl_getI (q := 29) dX7_undo_26 fX7_154 sh124 rfl rfl ?_
      refine fv_top (y := nI P.length) hP.1 ?_
      refine fv_iload_n (q := 30) dX7_undo_29 rfl rfl ?_
      refine fv_isub (q := 31) dX7_undo_30 rfl ?_
      refine fv_top (pk_sub c18) ?_
      refine fl_putI (q := 34) dX7_undo_31 fX7_154 sh124 rfl rfl rfl rfl ?_
      refine fv_aload_n (q := 35) dX7_undo_34 rfl rfl ?_
      refine fl_getR (q := 38) dX7_undo_35 fX7_16 sh124 rfl rfl ?_
      refine fv_bipush (v := 126) (q := 40) dX7_undo_38 (by decide) rfl ?_
      refine fv_aload_n (q := 41) dX7_undo_40 rfl rfl ?_
      refine fl_getI (q := 44) dX7_undo_41 fX7_154 sh124 rfl rfl ?_
      refine fv_top (y := nI (P.length - c)) (by rw [up_s, pk_us]) ?_
      refine fv_imul (q := 45) dX7_undo_44 rfl ?_
      refine fv_top (nI_mulc 126 _) ?_
      refine fv_aload_n (q := 46) dX7_undo_45 rfl rfl ?_
      refine fl_getR (q := 49) dX7_undo_46 fX7_7 sh124 rfl rfl ?_
      refine fv_iconst (v := 0) (q := 50) dX7_undo_49 (by decide) rfl ?_
      refine fl_callS (As := [_, _, _, _]) (q := 53) dX7_undo_50 gX7_158 rfl rfl (Nat.le_of_ble_eq_true rfl) rfl (by decide) (m_copies 127 125 2520 126 (126 * (P.length - c)) 0 sh127 sh125 (by decide) (by decide) (by omega) (by decide) (by decide) _ _) (fun res D1 J1 hp => ?_)
      obtain ⟨rfl, rfl, hc9, hf2⟩ := hp
      have hMU : MT D1 125 U := by
        intro x hx
        rw [hc9, fb_put_in (by omega) (by omega), Nat.sub_zero, up_n _ _ _ (by decide)]
        have h9 := hP.2.2 (c - 1) U hU x hx
        rw [show P.length - 1 - (c - 1) = P.length - c by omega] at h9
        exact h9
      refine fv_aload_n (q := 54) dX7_undo_53 rfl rfl ?_
      refine fl_getR (q := 57) dX7_undo_54 fX7_7 sh124 rfl rfl ?_
      refine fv_iconst (v := 0) (q := 58) dX7_undo_57 (by decide) rfl ?_
      refine fl_iald (q := 59) 0 dX7_undo_58 sh125 (by decide) rfl (by decide) rfl ?_
      refine fv_top (y := U 0) (hMU 0 (by decide)) ?_
      refine fv_iret dX7_undo_59 rfl rfl (Nat.le_refl _) ?_
      rw [f_undo_s c7 hcc hU] at hPost
      exact hPost _ _ _ ⟨rfl, MR.mk' hMU (past_drop hP c18 (by rw [hf2 124 (by decide), up_s, pk_us]) (by rw [hf2 127 (by decide), up_n _ _ _ (by decide)])) (hI.of (by rw [hf2 129 (by decide), up_n _ _ _ (by decide)]) (by rw [hf2 128 (by decide), up_n _ _ _ (by decide)])) (hB.of (by rw [hf2 124 (by decide), up_s, pk_un (by decide)]) (by rw [hf2 130 (by decide), up_n _ _ _ (by decide)])) (by rw [hf2 124 (by decide), up_s, pk_un (by decide)]; exact hs), fun a ha => by rw [hf2 a (by omega), up_n _ _ _ (by omega)], fun _ _ => rfl⟩
    · rw [nI_leI (by omega) (by omega)] at c18
      refine fv_ldc (q := 23) dX7_undo_21 kX7_200 rfl ?_
      refine fv_iret dX7_undo_23 rfl rfl (Nat.le_refl _) ?_
      rw [f_undo_n c7 hcc (List.getElem?_eq_none (by omega))] at hPost
      exact hPost _ _ _ ⟨rfl, hX, KM.rf⟩
  · rw [bi_0] at c7
    refine fv_ldc (q := 12) dX7_undo_10 kX7_157 rfl ?_
    refine fv_iret dX7_undo_12 rfl rfl (Nat.le_refl _) ?_
    have e9 : f_undo (T, n, P, I, B, s) k = (-1000000002, (T, n, P, I, B, s)) := by unfold f_undo; rw [if_pos c7]
    rw [e9] at hPost
    exact hPost _ _ _ ⟨rfl, hX, KM.rf⟩
theorem bookM_push {D : Nat → Nat → Int32} {B : List (Nat × Int32 × Int32)} (h : BookM D B) (hl : B.length < 20) {r : Nat} (hr : r < 40) {w u : Int32} : BookM (up (up (up (up D 130 (3 * B.length) (nI r)) 130 (3 * B.length + 1) w) 130 (3 * B.length + 2) u) 124 8 (nI (B.length + 1))) (B ++ [(r, w, u)]) := by
  refine ⟨by rw [up_s, pk_us, List.length_append]; rfl, by rw [List.length_append]; simp; omega, fun j q hj => ?_⟩
  rw [up_n _ _ _ (by decide), up_s, up_s, up_s]
  rcases Nat.lt_or_ge j B.length with g | g
  · rw [List.getElem?_append_left g] at hj
    rw [pk_un (by omega), pk_un (by omega), pk_un (by omega), pk_un (by omega), pk_un (by omega), pk_un (by omega), pk_un (by omega), pk_un (by omega), pk_un (by omega)]
    exact h.2.2 j q hj
  · rw [List.getElem?_append_right g] at hj
    have hj0 : j - B.length = 0 := by
      have := (List.getElem?_eq_some_iff.mp hj).1
      simp at this; omega
    rw [hj0] at hj
    have e : j = B.length := by omega
    subst e
    have : q = (r, w, u) := by simpa using hj.symm
    subst this
    refine ⟨hr, ?_, ?_, ?_⟩
    · rw [pk_un (by omega), pk_un (by omega), pk_us]
    · rw [pk_un (by omega), pk_us]
    · rw [pk_us]
set_option maxHeartbeats 4000000 in
set_option maxRecDepth 100000 in
theorem m_write (D : Nat → Nat → Int32) (J : Nat → Nat → Int64) (σ : Sg) (hX : MR D σ) (ok : SgOk σ) (r w u : Int32) : FD yX7_write cX7_write 4 (some .int) 2 [.ref 124, .int r, .int w, .int u] D J (fun res D' J' => res = some (.int (f_write σ r w u).1) ∧ MR D' (f_write σ r w u).2 ∧ KM D D' J J') := by
  refine FD.of (by decide) rfl (Nat.le_of_ble_eq_true rfl) (fun Post hPost => ?_)
  show FV _ _ _ _ _ _ _ _ _ _ _ _ [_, _, _, _] [] _
  obtain ⟨T, n, P, I, B, s⟩ := σ
  have hM : MT D 125 T := hX.1
  have hP : PastM D P := hX.2.1
  have hI : ImgM D I := hX.2.2.1
  have hB : BookM D B := hX.2.2.2.1
  have hs : D 124 6 = s := hX.2.2.2.2
  have v : VT T n := ok.1
  have h40 := v.2.1
  refine fv_aload_n (q := 1) dX7_write_0 rfl rfl ?_
  refine fv_iload_n (q := 2) dX7_write_1 rfl rfl ?_
  refine fl_callVi (As := [_]) (q := 5) dX7_write_2 gX7_131 rfl sh124 rfl rfl (Nat.le_of_ble_eq_true rfl) rfl (by decide) (m_isRow D J T n hM v r) ?_
  refine fv_if_ne (q := 8) 11 dX7_write_5 (by decide) rfl (fun c5 => ?_) (fun c5 => ?_)
  · rw [bi_n'] at c5
    obtain ⟨j, hj, hrj, hjc⟩ := okr_t c5 h40
    subst hrj
    refine fv_iload_n (q := 12) dX7_write_11 rfl rfl ?_
    refine fv_iconst (v := 0) (q := 13) dX7_write_12 (by decide) rfl ?_
    refine fv_bipush (v := 8) (q := 15) dX7_write_13 (by decide) rfl ?_
    refine fl_callSi (As := [_, _, _]) (q := 18) dX7_write_15 gX7_120 rfl rfl (Nat.le_of_ble_eq_true rfl) rfl (by decide) (m_in D J w 0 8) ?_
    refine fv_if_ne (q := 21) 24 dX7_write_18 (by decide) rfl (fun c18 => ?_) (fun c18 => ?_)
    · rw [bi_n'] at c18
      refine fv_aload_n (q := 25) dX7_write_24 rfl rfl ?_
      refine fl_getI (q := 28) dX7_write_25 fX7_128 sh124 rfl rfl ?_
      refine fv_top (y := nI B.length) hB.1 ?_
      have hb20 := hB.2.1
      refine fv_bipush (v := 20) (q := 30) dX7_write_28 (by decide) rfl ?_
      refine fv_icmp_ne (q := 33) 36 dX7_write_30 (by decide) rfl (fun c30 => ?_) (fun c30 => ?_)
      · rw [show (20 : Int32) = nI 20 from rfl, nI_eq (by omega) (by omega)] at c30
        refine fv_aload_n (q := 37) dX7_write_36 rfl rfl ?_
        refine fl_getR (q := 40) dX7_write_37 fX7_26 sh124 rfl rfl ?_
        refine fv_iconst (v := 3) (q := 41) dX7_write_40 (by decide) rfl ?_
        refine fv_aload_n (q := 42) dX7_write_41 rfl rfl ?_
        refine fl_getI (q := 45) dX7_write_42 fX7_128 sh124 rfl rfl ?_
        refine fv_top (y := nI B.length) hB.1 ?_
        refine fv_imul (q := 46) dX7_write_45 rfl ?_
        refine fv_top (nI_mul3 _) ?_
        refine fv_iload_n (q := 47) dX7_write_46 rfl rfl ?_
        refine fl_iast (q := 48) (3 * B.length) dX7_write_47 sh130 (by decide) rfl (by omega) rfl ?_
        refine fv_aload_n (q := 49) dX7_write_48 rfl rfl ?_
        refine fl_getR (q := 52) dX7_write_49 fX7_26 sh124 rfl rfl ?_
        refine fv_iconst (v := 3) (q := 53) dX7_write_52 (by decide) rfl ?_
        refine fv_aload_n (q := 54) dX7_write_53 rfl rfl ?_
        refine fl_getI (q := 57) dX7_write_54 fX7_128 sh124 rfl rfl ?_
        refine fv_top (y := nI B.length) hB.1 ?_
        refine fv_imul (q := 58) dX7_write_57 rfl ?_
        refine fv_top (nI_mul3 _) ?_
        refine fv_iconst (v := 1) (q := 59) dX7_write_58 (by decide) rfl ?_
        refine fv_iadd (q := 60) dX7_write_59 rfl ?_
        refine fv_top (nI_1 _) ?_
        refine fv_iload_n (q := 61) dX7_write_60 rfl rfl ?_
        refine fl_iast (q := 62) (3 * B.length + 1) dX7_write_61 sh130 (by decide) rfl (by omega) rfl ?_
        refine fv_aload_n (q := 63) dX7_write_62 rfl rfl ?_
        refine fl_getR (q := 66) dX7_write_63 fX7_26 sh124 rfl rfl ?_
        refine fv_iconst (v := 3) (q := 67) dX7_write_66 (by decide) rfl ?_
        refine fv_aload_n (q := 68) dX7_write_67 rfl rfl ?_
        refine fl_getI (q := 71) dX7_write_68 fX7_128 sh124 rfl rfl ?_
        refine fv_top (y := nI B.length) hB.1 ?_
        refine fv_imul (q := 72) dX7_write_71 rfl ?_
        refine fv_top (nI_mul3 _) ?_
        refine fv_iconst (v := 2) (q := 73) dX7_write_72 (by decide) rfl ?_
        refine fv_iadd (q := 74) dX7_write_73 rfl ?_
        refine fv_top (nI_add _ 2) ?_
        refine fv_iload_n (q := 75) dX7_write_74 rfl rfl ?_
        refine fl_iast (q := 76) (3 * B.length + 2) dX7_write_75 sh130 (by decide) rfl (by omega) rfl ?_
        refine fv_aload_n (q := 77) dX7_write_76 rfl rfl ?_
        refine fv_dup (q := 78) dX7_write_77 rfl rfl ?_
        refine fl_getI (q := 81) dX7_write_78 fX7_128 sh124 rfl rfl ?_
        refine fv_top (y := nI B.length) hB.1 ?_
        refine fv_iconst (v := 1) (q := 82) dX7_write_81 (by decide) rfl ?_
        refine fv_iadd (q := 83) dX7_write_82 rfl ?_
        refine fv_top (nI_1 _) ?_
        refine fl_putI (q := 86) dX7_write_83 fX7_128 sh124 rfl rfl rfl rfl ?_
        refine fv_aload_n (q := 87) dX7_write_86 rfl rfl ?_
        refine fl_getI (q := 90) dX7_write_87 fX7_128 sh124 rfl rfl ?_
        refine fv_top (y := nI (B.length + 1)) (by rw [up_s, pk_us]) ?_
        refine fv_iret dX7_write_90 rfl rfl (Nat.le_refl _) ?_
        have e9 : f_write (T, n, P, I, B, s) (nI j) w u = (nI (B.length + 1), (T, n, P, I, B ++ [(j, w, u)], s)) := by unfold f_write; rw [if_neg (by rw [c5]; decide), if_neg (by rw [c18]; decide), if_neg (by show ¬ 20 ≤ B.length; omega), hjc]
        rw [e9] at hPost
        exact hPost _ _ _ ⟨rfl, MR.mk' (by unfold MT; rw [up_n _ _ _ (by decide), up_n _ _ _ (by decide), up_n _ _ _ (by decide), up_n _ _ _ (by decide)]; exact hM) (hP.of rfl rfl) (hI.of rfl rfl) (bookM_push hB (by omega) (by omega)) hs, fun a ha => by rw [up_n _ _ _ (by omega), up_n _ _ _ (by omega), up_n _ _ _ (by omega), up_n _ _ _ (by omega)], fun _ _ => rfl⟩
      · rw [show (20 : Int32) = nI 20 from rfl, nI_eq (by omega) (by omega)] at c30
        refine fv_ldc (q := 35) dX7_write_33 kX7_179 rfl ?_
        refine fv_iret dX7_write_35 rfl rfl (Nat.le_refl _) ?_
        have e9 : f_write (T, n, P, I, B, s) (nI j) w u = (-1000000004, (T, n, P, I, B, s)) := by unfold f_write; rw [if_neg (by rw [c5]; decide), if_neg (by rw [c18]; decide), if_pos (by show 20 ≤ B.length; omega)]
        rw [e9] at hPost
        exact hPost _ _ _ ⟨rfl, hX, KM.rf⟩
    · rw [bi_0] at c18
      refine fv_ldc (q := 23) dX7_write_21 kX7_157 rfl ?_
      refine fv_iret dX7_write_23 rfl rfl (Nat.le_refl _) ?_
      have e9 : f_write (T, n, P, I, B, s) (nI j) w u = (-1000000002, (T, n, P, I, B, s)) := by unfold f_write; rw [if_neg (by rw [c5]; decide), if_pos c18]
      rw [e9] at hPost
      exact hPost _ _ _ ⟨rfl, hX, KM.rf⟩
  · rw [bi_0] at c5
    refine fv_ldc (q := 10) dX7_write_8 kX7_165 rfl ?_
    refine fv_iret dX7_write_10 rfl rfl (Nat.le_refl _) ?_
    have e9 : f_write (T, n, P, I, B, s) r w u = (-1000000001, (T, n, P, I, B, s)) := by unfold f_write; rw [if_pos c5]
    rw [e9] at hPost
    exact hPost _ _ _ ⟨rfl, hX, KM.rf⟩
set_option maxHeartbeats 4000000 in
set_option maxRecDepth 100000 in
theorem m_tear (D : Nat → Nat → Int32) (J : Nat → Nat → Int64) (σ : Sg) (hX : MR D σ) (ok : SgOk σ)  : FD yX7_tear cX7_tear 2 (some .int) 0 [.ref 124] D J (fun res D' J' => res = some (.int (f_tear σ).1) ∧ MR D' (f_tear σ).2 ∧ KM D D' J J') := by
  refine FD.of (by decide) rfl (Nat.le_of_ble_eq_true rfl) (fun Post hPost => ?_)
  show FV _ _ _ _ _ _ _ _ _ _ _ _ [_, _] [] _
  obtain ⟨T, n, P, I, B, s⟩ := σ
  have hM : MT D 125 T := hX.1
  have hP : PastM D P := hX.2.1
  have hI : ImgM D I := hX.2.2.1
  have hB : BookM D B := hX.2.2.2.1
  have hs : D 124 6 = s := hX.2.2.2.2
  have v : VT T n := ok.1
  have h40 := v.2.1
  refine fv_aload_n (q := 1) dX7_tear_0 rfl rfl ?_
  refine fl_getI (q := 4) dX7_tear_1 fX7_128 sh124 rfl rfl ?_
  refine fv_top (y := nI B.length) hB.1 ?_
  refine fv_istore_n (i := 1) (q := 5) (l' := [_, _]) dX7_tear_4 rfl (by decide) rfl rfl rfl ?_
  refine fv_aload_n (q := 6) dX7_tear_5 rfl rfl ?_
  refine fv_iconst (v := 0) (q := 7) dX7_tear_6 (by decide) rfl ?_
  refine fl_putI (q := 10) dX7_tear_7 fX7_128 sh124 rfl rfl rfl rfl ?_
  refine fv_iload_n (q := 11) dX7_tear_10 rfl rfl ?_
  refine fv_iret dX7_tear_11 rfl rfl (Nat.le_refl _) ?_
  have e9 : f_tear (T, n, P, I, B, s)  = (nI B.length, (T, n, P, I, [], s)) := by unfold f_tear; rfl
  rw [e9] at hPost
  exact hPost _ _ _ ⟨rfl, MR.mk' hM (hP.of (by rw [up_s, pk_un (by decide)]) rfl) (hI.of rfl rfl) ⟨by rw [up_s, pk_us]; rfl, Nat.zero_le _, fun j q hj => by simp at hj⟩ (by rw [up_s, pk_un (by decide)]; exact hs), fun a ha => by rw [up_n _ _ _ (by omega)], fun _ _ => rfl⟩
set_option maxHeartbeats 4000000 in
set_option maxRecDepth 100000 in
theorem m_seed (D : Nat → Nat → Int32) (J : Nat → Nat → Int64) (σ : Sg) (hX : MR D σ) (ok : SgOk σ) (x : Int32) : FD yX7_seed cX7_seed 3 (some .int) 0 [.ref 124, .int x] D J (fun res D' J' => res = some (.int (f_seed σ x).1) ∧ MR D' (f_seed σ x).2 ∧ KM D D' J J') := by
  refine FD.of (by decide) rfl (Nat.le_of_ble_eq_true rfl) (fun Post hPost => ?_)
  show FV _ _ _ _ _ _ _ _ _ _ _ _ [_, _, _] [] _
  obtain ⟨T, n, P, I, B, s⟩ := σ
  have hM : MT D 125 T := hX.1
  have hP : PastM D P := hX.2.1
  have hI : ImgM D I := hX.2.2.1
  have hB : BookM D B := hX.2.2.2.1
  have hs : D 124 6 = s := hX.2.2.2.2
  have v : VT T n := ok.1
  have h40 := v.2.1
  refine fv_iload_n (q := 1) dX7_seed_0 rfl rfl ?_
  refine fv_if_ge (q := 4) 7 dX7_seed_1 (by decide) rfl (fun c1 => ?_) (fun c1 => ?_)
  · refine fv_aload_n (q := 8) dX7_seed_7 rfl rfl ?_
    refine fl_getI (q := 11) dX7_seed_8 fX7_187 sh124 rfl rfl ?_
    refine fv_top hs ?_
    refine fv_istore_n (i := 2) (q := 12) (l' := [_, _, _]) dX7_seed_11 rfl (by decide) rfl rfl rfl ?_
    refine fv_aload_n (q := 13) dX7_seed_12 rfl rfl ?_
    refine fv_iload_n (q := 14) dX7_seed_13 rfl rfl ?_
    refine fl_putI (q := 17) dX7_seed_14 fX7_187 sh124 rfl rfl rfl rfl ?_
    refine fv_iload_n (q := 18) dX7_seed_17 rfl rfl ?_
    refine fv_iret dX7_seed_18 rfl rfl (Nat.le_refl _) ?_
    have e9 : f_seed (T, n, P, I, B, s) x = (s, (T, n, P, I, B, x)) := by unfold f_seed; rw [if_pos c1]
    rw [e9] at hPost
    exact hPost _ _ _ ⟨rfl, MR.mk' hM (hP.of (by rw [up_s, pk_un (by decide)]) rfl) (hI.of rfl rfl) (hB.of (by rw [up_s, pk_un (by decide)]) rfl) (by rw [up_s, pk_us]), fun a ha => by rw [up_n _ _ _ (by omega)], fun _ _ => rfl⟩
  · refine fv_ldc (q := 6) dX7_seed_4 kX7_157 rfl ?_
    refine fv_iret dX7_seed_6 rfl rfl (Nat.le_refl _) ?_
    have e9 : f_seed (T, n, P, I, B, s) x = (-1000000002, (T, n, P, I, B, s)) := by unfold f_seed; rw [if_neg c1]
    rw [e9] at hPost
    exact hPost _ _ _ ⟨rfl, hX, KM.rf⟩
theorem past_nil {D : Nat → Nat → Int32} (h : D 124 3 = 0) : PastM D [] := ⟨h, Nat.zero_le _, fun j U hj => by simp at hj⟩
theorem img_keep {D E : Nat → Nat → Int32} {I : Nat → Option ((Nat → Int32) × Int32)} {T : Nat → Int32} {s : Int32} {i : Nat} (hI : ImgM D I) (hM : MT D 125 T) (hi : i < 2) (h9 : E 129 = upd (D 129) i 1) (h8 : E 128 = upd (fb_put (D 128) (fun x => D 125 (0 + x)) (127 * i) 126) (127 * i + 126) s) : ImgM E (fun j => if j = i then some (T, s) else I j) := by
  intro j hj
  obtain ⟨g1, g2⟩ := hI j hj
  by_cases q : j = i
  · subst q
    simp only [if_true]
    refine ⟨fun h => by simp at h, fun q hq => ?_⟩
    have : q = (T, s) := by simpa using hq.symm
    subst this
    rw [h9, h8, pk_us, pk_us]
    refine ⟨rfl, fun x hx => ?_, rfl⟩
    rw [pk_un (by omega), fb_put_in (by omega) (by omega), Nat.zero_add, show 127 * j + x - 127 * j = x by omega]
    exact hM x hx
  · simp only [if_neg q]
    rw [h9, h8, pk_un q]
    refine ⟨g1, fun p hp => ?_⟩
    obtain ⟨k1, k2, k3⟩ := g2 p hp
    refine ⟨k1, fun x hx => ?_, ?_⟩
    · rw [pk_un (by omega), fb_put_out (by omega)]; exact k2 x hx
    · rw [pk_un (by omega), fb_put_out (by omega)]; exact k3
set_option maxHeartbeats 4000000 in
set_option maxRecDepth 100000 in
theorem m_keep (D : Nat → Nat → Int32) (J : Nat → Nat → Int64) (σ : Sg) (hX : MR D σ) (ok : SgOk σ) (k : Int32) : FD yX7_keep cX7_keep 2 (some .int) 1 [.ref 124, .int k] D J (fun res D' J' => res = some (.int (f_keep σ k).1) ∧ MR D' (f_keep σ k).2 ∧ KM D D' J J') := by
  refine FD.of (by decide) rfl (Nat.le_of_ble_eq_true rfl) (fun Post hPost => ?_)
  show FV _ _ _ _ _ _ _ _ _ _ _ _ [_, _] [] _
  obtain ⟨T, n, P, I, B, s⟩ := σ
  have hM : MT D 125 T := hX.1
  have hP : PastM D P := hX.2.1
  have hI : ImgM D I := hX.2.2.1
  have hB : BookM D B := hX.2.2.2.1
  have hs : D 124 6 = s := hX.2.2.2.2
  have v : VT T n := ok.1
  have h40 := v.2.1
  refine fv_iload_n (q := 1) dX7_keep_0 rfl rfl ?_
  refine fv_iconst (v := 0) (q := 2) dX7_keep_1 (by decide) rfl ?_
  refine fv_iconst (v := 1) (q := 3) dX7_keep_2 (by decide) rfl ?_
  refine fl_callSi (As := [_, _, _]) (q := 6) dX7_keep_3 gX7_120 rfl rfl (Nat.le_of_ble_eq_true rfl) rfl (by decide) (m_in D J k 0 1) ?_
  refine fv_if_ne (q := 9) 12 dX7_keep_6 (by decide) rfl (fun c6 => ?_) (fun c6 => ?_)
  · rw [bi_n'] at c6
    obtain ⟨i, hi1, hi2, hki, hic⟩ := wth_n (a := 0) (b := 1) c6 (by decide) (by decide)
    subst hki
    refine fv_aload_n (q := 13) dX7_keep_12 rfl rfl ?_
    refine fl_getR (q := 16) dX7_keep_13 fX7_7 sh124 rfl rfl ?_
    refine fv_iconst (v := 0) (q := 17) dX7_keep_16 (by decide) rfl ?_
    refine fv_aload_n (q := 18) dX7_keep_17 rfl rfl ?_
    refine fl_getR (q := 21) dX7_keep_18 fX7_19 sh124 rfl rfl ?_
    refine fv_bipush (v := 127) (q := 23) dX7_keep_21 (by decide) rfl ?_
    refine fv_iload_n (q := 24) dX7_keep_23 rfl rfl ?_
    refine fv_imul (q := 25) dX7_keep_24 rfl ?_
    refine fv_top (nI_mulc 127 i) ?_
    refine fl_callS (As := [_, _, _, _]) (q := 28) dX7_keep_25 gX7_158 rfl rfl (Nat.le_of_ble_eq_true rfl) rfl (by decide) (m_copies 125 128 126 254 0 (127 * i) sh125 sh128 (by decide) (by decide) (by decide) (by omega) (by decide) _ _) (fun res D1 J1 hp => ?_)
    obtain ⟨rfl, rfl, hc9, hf2⟩ := hp
    refine fv_aload_n (q := 29) dX7_keep_28 rfl rfl ?_
    refine fl_getR (q := 32) dX7_keep_29 fX7_19 sh124 rfl rfl ?_
    refine fv_bipush (v := 127) (q := 34) dX7_keep_32 (by decide) rfl ?_
    refine fv_iload_n (q := 35) dX7_keep_34 rfl rfl ?_
    refine fv_imul (q := 36) dX7_keep_35 rfl ?_
    refine fv_top (nI_mulc 127 i) ?_
    refine fv_bipush (v := 126) (q := 38) dX7_keep_36 (by decide) rfl ?_
    refine fv_iadd (q := 39) dX7_keep_38 rfl ?_
    refine fv_top (nI_add _ 126) ?_
    refine fv_aload_n (q := 40) dX7_keep_39 rfl rfl ?_
    refine fl_getI (q := 43) dX7_keep_40 fX7_187 sh124 rfl rfl ?_
    refine fv_top (y := s) (by rw [hf2 124 (by decide)]; exact hs) ?_
    refine fl_iast (q := 44) (127 * i + 126) dX7_keep_43 sh128 (by decide) rfl (by omega) rfl ?_
    refine fv_aload_n (q := 45) dX7_keep_44 rfl rfl ?_
    refine fl_getR (q := 48) dX7_keep_45 fX7_22 sh124 rfl rfl ?_
    refine fv_iload_n (q := 49) dX7_keep_48 rfl rfl ?_
    refine fv_iconst (v := 1) (q := 50) dX7_keep_49 (by decide) rfl ?_
    refine fl_zast (q := 51) i dX7_keep_50 sh129 (by decide) rfl (by omega) (by decide) rfl ?_
    refine fv_aload_n (q := 52) dX7_keep_51 rfl rfl ?_
    refine fv_iconst (v := 0) (q := 53) dX7_keep_52 (by decide) rfl ?_
    refine fl_putI (q := 56) dX7_keep_53 fX7_154 sh124 rfl rfl rfl rfl ?_
    refine fv_iconst (v := 1) (q := 57) dX7_keep_56 (by decide) rfl ?_
    refine fv_iret dX7_keep_57 rfl rfl (Nat.le_refl _) ?_
    have e9 : f_keep (T, n, P, I, B, s) (nI i) = (1, (T, n, [], (fun j => if j = i then some (T, s) else I j), B, s)) := by unfold f_keep; rw [if_neg (by rw [c6]; decide), hic]
    rw [e9] at hPost
    refine hPost _ _ _ ⟨rfl, MR.mk' ?_ (past_nil (by rw [up_s, pk_us])) (img_keep hI hM (by omega) ?_ ?_) (hB.of ?_ ?_) ?_, fun a ha => by rw [up_n _ _ _ (by omega), up_n _ _ _ (by omega), up_n _ _ _ (by omega)]; exact hf2 a (by omega), fun _ _ => rfl⟩
    · unfold MT; rw [up_n _ _ _ (by decide), up_n _ _ _ (by decide), up_n _ _ _ (by decide), hf2 125 (by decide)]; exact hM
    · rw [up_n _ _ _ (by decide), up_s, up_n _ _ _ (by decide), hf2 129 (by decide)]
    · rw [up_n _ _ _ (by decide), up_n _ _ _ (by decide), up_s, hc9]
    · rw [up_s, pk_un (by decide), up_n _ _ _ (by decide), up_n _ _ _ (by decide), hf2 124 (by decide)]
    · rw [up_n _ _ _ (by decide), up_n _ _ _ (by decide), up_n _ _ _ (by decide), hf2 130 (by decide)]
    · rw [up_s, pk_un (by decide), up_n _ _ _ (by decide), up_n _ _ _ (by decide), hf2 124 (by decide)]; exact hs
  · rw [bi_0] at c6
    refine fv_ldc (q := 11) dX7_keep_9 kX7_165 rfl ?_
    refine fv_iret dX7_keep_11 rfl rfl (Nat.le_refl _) ?_
    have e9 : f_keep (T, n, P, I, B, s) k = (-1000000001, (T, n, P, I, B, s)) := by unfold f_keep; rw [if_pos c6]
    rw [e9] at hPost
    exact hPost _ _ _ ⟨rfl, hX, KM.rf⟩
theorem f_gb_s {T : Nat → Int32} {n : Nat} {P : List (Nat → Int32)} {I : Nat → Option ((Nat → Int32) × Int32)} {B : List (Nat × Int32 × Int32)} {s k x : Int32} {c : Nat} {U : Nat → Int32} (h : wth k 0 1 = true) (hc : k.toNatClampNeg = c) (hU : I c = some (U, x)) : f_goBack (T, n, P, I, B, s) k = (1, (U, (U 0).toNatClampNeg, [], I, B, x)) := by
  unfold f_goBack
  rw [if_neg (by rw [h]; decide), hc]
  show (match I c with | none => _ | some q => _) = _
  rw [hU]
theorem f_gb_n {T : Nat → Int32} {n : Nat} {P : List (Nat → Int32)} {I : Nat → Option ((Nat → Int32) × Int32)} {B : List (Nat × Int32 × Int32)} {s k : Int32} {c : Nat} (h : wth k 0 1 = true) (hc : k.toNatClampNeg = c) (hU : I c = none) : f_goBack (T, n, P, I, B, s) k = (-1000000003, (T, n, P, I, B, s)) := by
  unfold f_goBack
  rw [if_neg (by rw [h]; decide), hc]
  show (match I c with | none => _ | some q => _) = _
  rw [hU]
set_option maxHeartbeats 4000000 in
set_option maxRecDepth 100000 in
theorem m_goBack (D : Nat → Nat → Int32) (J : Nat → Nat → Int64) (σ : Sg) (hX : MR D σ) (ok : SgOk σ) (k : Int32) : FD yX7_goBack cX7_goBack 2 (some .int) 1 [.ref 124, .int k] D J (fun res D' J' => res = some (.int (f_goBack σ k).1) ∧ MR D' (f_goBack σ k).2 ∧ KM D D' J J') := by
  refine FD.of (by decide) rfl (Nat.le_of_ble_eq_true rfl) (fun Post hPost => ?_)
  show FV _ _ _ _ _ _ _ _ _ _ _ _ [_, _] [] _
  obtain ⟨T, n, P, I, B, s⟩ := σ
  have hM : MT D 125 T := hX.1
  have hP : PastM D P := hX.2.1
  have hI : ImgM D I := hX.2.2.1
  have hB : BookM D B := hX.2.2.2.1
  have hs : D 124 6 = s := hX.2.2.2.2
  have v : VT T n := ok.1
  have h40 := v.2.1
  refine fv_iload_n (q := 1) dX7_goBack_0 rfl rfl ?_
  refine fv_iconst (v := 0) (q := 2) dX7_goBack_1 (by decide) rfl ?_
  refine fv_iconst (v := 1) (q := 3) dX7_goBack_2 (by decide) rfl ?_
  refine fl_callSi (As := [_, _, _]) (q := 6) dX7_goBack_3 gX7_120 rfl rfl (Nat.le_of_ble_eq_true rfl) rfl (by decide) (m_in D J k 0 1) ?_
  refine fv_if_ne (q := 9) 12 dX7_goBack_6 (by decide) rfl (fun c6 => ?_) (fun c6 => ?_)
  · rw [bi_n'] at c6
    obtain ⟨i, hi1, hi2, hki, hic⟩ := wth_n (a := 0) (b := 1) c6 (by decide) (by decide)
    subst hki
    refine fv_aload_n (q := 13) dX7_goBack_12 rfl rfl ?_
    refine fl_getR (q := 16) dX7_goBack_13 fX7_22 sh124 rfl rfl ?_
    refine fv_iload_n (q := 17) dX7_goBack_16 rfl rfl ?_
    refine fl_zald (q := 18) i dX7_goBack_17 sh129 (by decide) rfl (by omega) rfl ?_
    refine fv_if_ne (q := 21) 24 dX7_goBack_18 (by decide) rfl (fun c18 => ?_) (fun c18 => ?_)
    · obtain ⟨⟨U, x⟩, hIi⟩ : ∃ q, I i = some q := by
        cases hq : I i with
        | none => exact absurd ((hI i (by omega)).1 hq) c18
        | some q => exact ⟨q, rfl⟩
      obtain ⟨g1, g2, g3⟩ := (hI i (by omega)).2 _ hIi
      refine fv_aload_n (q := 25) dX7_goBack_24 rfl rfl ?_
      refine fl_getR (q := 28) dX7_goBack_25 fX7_19 sh124 rfl rfl ?_
      refine fv_bipush (v := 127) (q := 30) dX7_goBack_28 (by decide) rfl ?_
      refine fv_iload_n (q := 31) dX7_goBack_30 rfl rfl ?_
      refine fv_imul (q := 32) dX7_goBack_31 rfl ?_
      refine fv_top (nI_mulc 127 i) ?_
      refine fv_aload_n (q := 33) dX7_goBack_32 rfl rfl ?_
      refine fl_getR (q := 36) dX7_goBack_33 fX7_7 sh124 rfl rfl ?_
      refine fv_iconst (v := 0) (q := 37) dX7_goBack_36 (by decide) rfl ?_
      refine fl_callS (As := [_, _, _, _]) (q := 40) dX7_goBack_37 gX7_158 rfl rfl (Nat.le_of_ble_eq_true rfl) rfl (by decide) (m_copies 128 125 254 126 (127 * i) 0 sh128 sh125 (by decide) (by decide) (by omega) (by decide) (by decide) _ _) (fun res D1 J1 hp => ?_)
      obtain ⟨rfl, rfl, hc9, hf2⟩ := hp
      have hMU : MT D1 125 U := by
        intro y hy
        rw [hc9, fb_put_in (by omega) (by omega), Nat.sub_zero]
        exact g2 y hy
      refine fv_aload_n (q := 41) dX7_goBack_40 rfl rfl ?_
      refine fv_aload_n (q := 42) dX7_goBack_41 rfl rfl ?_
      refine fl_getR (q := 45) dX7_goBack_42 fX7_19 sh124 rfl rfl ?_
      refine fv_bipush (v := 127) (q := 47) dX7_goBack_45 (by decide) rfl ?_
      refine fv_iload_n (q := 48) dX7_goBack_47 rfl rfl ?_
      refine fv_imul (q := 49) dX7_goBack_48 rfl ?_
      refine fv_top (nI_mulc 127 i) ?_
      refine fv_bipush (v := 126) (q := 51) dX7_goBack_49 (by decide) rfl ?_
      refine fv_iadd (q := 52) dX7_goBack_51 rfl ?_
      refine fv_top (nI_add _ 126) ?_
      refine fl_iald (q := 53) (127 * i + 126) dX7_goBack_52 sh128 (by decide) rfl (by omega) rfl ?_
      refine fv_top (y := x) (by rw [hf2 128 (by decide)]; exact g3) ?_
      refine fl_putI (q := 56) dX7_goBack_53 fX7_187 sh124 rfl rfl rfl rfl ?_
      refine fv_aload_n (q := 57) dX7_goBack_56 rfl rfl ?_
      refine fv_iconst (v := 0) (q := 58) dX7_goBack_57 (by decide) rfl ?_
      refine fl_putI (q := 61) dX7_goBack_58 fX7_154 sh124 rfl rfl rfl rfl ?_
      refine fv_iconst (v := 1) (q := 62) dX7_goBack_61 (by decide) rfl ?_
      refine fv_iret dX7_goBack_62 rfl rfl (Nat.le_refl _) ?_
      rw [f_gb_s c6 hic hIi] at hPost
      refine hPost _ _ _ ⟨rfl, MR.mk' hMU (past_nil (by rw [up_s, pk_us])) (hI.of ?_ ?_) (hB.of ?_ ?_) ?_, fun a ha => by rw [up_n _ _ _ (by omega), up_n _ _ _ (by omega)]; exact hf2 a (by omega), fun _ _ => rfl⟩
      · rw [up_n _ _ _ (by decide), up_n _ _ _ (by decide), hf2 129 (by decide)]
      · rw [up_n _ _ _ (by decide), up_n _ _ _ (by decide), hf2 128 (by decide)]
      · rw [up_s, pk_un (by decide), up_s, pk_un (by decide), hf2 124 (by decide)]
      · rw [up_n _ _ _ (by decide), up_n _ _ _ (by decide), hf2 130 (by decide)]
      · rw [up_s, pk_un (by decide), up_s, pk_us]
    · have hIi : I i = none := by
        cases hq : I i with
        | none => rfl
        | some q => exact absurd (((hI i (by omega)).2 q hq).1.symm.trans c18) (by decide)
      refine fv_ldc (q := 23) dX7_goBack_21 kX7_200 rfl ?_
      refine fv_iret dX7_goBack_23 rfl rfl (Nat.le_refl _) ?_
      rw [f_gb_n c6 hic hIi] at hPost
      exact hPost _ _ _ ⟨rfl, hX, KM.rf⟩
  · rw [bi_0] at c6
    refine fv_ldc (q := 11) dX7_goBack_9 kX7_165 rfl ?_
    refine fv_iret dX7_goBack_11 rfl rfl (Nat.le_refl _) ?_
    have e9 : f_goBack (T, n, P, I, B, s) k = (-1000000001, (T, n, P, I, B, s)) := by unfold f_goBack; rw [if_pos c6]
    rw [e9] at hPost
    exact hPost _ _ _ ⟨rfl, hX, KM.rf⟩
