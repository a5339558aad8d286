/-! the model: worths of a frame, its answers -/
def WoS (D : Nat → Nat → Int32) (S : List Int32) : Prop := D 124 21 = nI S.length ∧ hold (D 139) S
def KW (D E : Nat → Nat → Int32) : Prop := (∀ x, x ≠ 21 → E 124 x = D 124 x) ∧ ∀ c, c ≠ 124 → c ≠ 139 → E c = D c
theorem KW.rf (D : Nat → Nat → Int32) : KW D D := ⟨fun _ _ => rfl, fun _ _ _ => rfl⟩
theorem KW.ux {D E : Nat → Nat → Int32} {y : Int32} (h : KW D E) : KW D (up E 124 21 y) :=
  ⟨fun z h1 => by rw [up_s, pk_un h1]; exact h.1 z h1, fun c hc a => by rw [up_n _ _ _ hc]; exact h.2 c hc a⟩
theorem KW.ua {D E : Nat → Nat → Int32} {x : Nat} {y : Int32} (h : KW D E) : KW D (up E 139 x y) :=
  ⟨fun z h1 => by rw [up_n _ _ _ (by decide)]; exact h.1 z h1, fun c hc a => by rw [up_n _ _ _ a]; exact h.2 c hc a⟩
theorem KW.kf {D E : Nat → Nat → Int32} (h : KW D E) : KF D E := ⟨fun x hx => h.1 x (by omega), fun c hc _ h2 => h.2 c hc h2⟩
theorem KW.fr {D E : Nat → Nat → Int32} {L : List Nat} (h : KW D E) (hS : FrS D L) : FrS E L := ⟨by rw [h.1 18 (by decide)]; exact hS.1, by rw [h.2 138 (by decide) (by decide)]; exact hS.2⟩
theorem wl_take (T : Nat → Int32) {L : List Nat} {k : Nat} (hk : k < L.length) : wl T (L.take (k + 1)) = wl T (L.take k) ++ (if wo T (L.getD k 0) = 1000000 then [] else [wo T (L.getD k 0)]) := by
  rw [List.take_succ_eq_append_getElem hk, wl_push, List.getD_eq_getElem?_getD, List.getElem?_eq_getElem hk]
  rfl
set_option maxHeartbeats 4000000 in
set_option maxRecDepth 100000 in
theorem m_sorts (a : Nat) (ha : shL[a]? = some (.inl (0, 126))) (D : Nat → Nat → Int32) (J : Nat → Nat → Int64) (T : Nat → Int32) (hM : MT D a T) (ha2 : 124 < a ∧ a < 131) (L : List Nat) (hL : L.length ≤ 40) (hx : ∀ x, x ∈ L → x < 40) (hS : FrS D L) : FD yX7_sorts cX7_sorts 5 none 0 [.ref 124, .ref a] D J (fun res D' J' => res = none ∧ J' = J ∧ WoS D' (srt (wl T L)) ∧ KW D D') := by
  refine FD.of (by decide) rfl (Nat.le_of_ble_eq_true rfl) (fun Post hPost => ?_)
  show FV _ _ _ _ _ _ _ _ _ _ _ _ [_, _, _, _, _] [] _
  have hm : ∀ i, (srt (wl T (L.take i))).length ≤ i ∧ (i < L.length → (srt (wl T (L.take i))).length < 40) := fun i => by
    have h1 := wl_len T (L.take i)
    rw [List.length_take] at h1
    rw [srt_len]
    omega
  have outer : ∀ i, i ≤ L.length → ∀ (l3 l4 : Option Value) (E : Nat → Nat → Int32), KW D E → WoS E (srt (wl T (L.take i))) → FV cX7_sorts 5 none yX7_sorts.cls yX7_sorts.name 0 0 0 Post 0 0 7 [some (.ref 124), some (.ref a), some (.int (nI i)), l3, l4] [] (lay E J) := by
    refine up_ind (fun i hi ih => ?_)
    intro l3 l4 E0 hK hW
    have hm1 := (hm i).2
    have fin : i < L.length → ¬ wo T (L.getD i 0) = 1000000 → ∀ k, k ≤ (srt (wl T (L.take i))).length → ∀ E : Nat → Nat → Int32, KW D E → E 124 21 = nI (srt (wl T (L.take i))).length → ivI (srt (wl T (L.take i))) (srt (wl T (L.take i))).length k (E0 139) (E 139) → k = stp (srt (wl T (L.take i))) (wo T (L.getD i 0)) (srt (wl T (L.take i))).length → FV cX7_sorts 5 none yX7_sorts.cls yX7_sorts.name 0 0 0 Post 0 0 79 [some (.ref 124), some (.ref a), some (.int (nI i)), some (.int (wo T (L.getD i 0))), some (.int (nI k))] [] (lay E J) := by
      intro hiL hw k hki E hK h21 hv hk
      refine fv_aload_n (q := 80) dX7_sorts_79 rfl rfl ?_
      refine fl_getR (q := 83) dX7_sorts_80 fX7_53 sh124 rfl rfl ?_
      refine fv_iload (q := 85) dX7_sorts_83 rfl rfl ?_
      refine fv_iload_n (q := 86) dX7_sorts_85 rfl rfl ?_
      refine fl_iast (q := 87) k dX7_sorts_86 sh139 (by decide) rfl (by omega) rfl ?_
      refine fv_aload_n (q := 88) dX7_sorts_87 rfl rfl ?_
      refine fv_dup (q := 89) dX7_sorts_88 rfl rfl ?_
      refine fl_getI (q := 92) dX7_sorts_89 fX7_103 sh124 rfl rfl ?_
      refine fv_top (y := nI (srt (wl T (L.take i))).length) h21 ?_
      refine fv_iconst (v := 1) (q := 93) dX7_sorts_92 (by decide) rfl ?_
      refine fv_iadd (q := 94) dX7_sorts_93 rfl ?_
      refine fv_top (nI_1 _) ?_
      refine fl_putI (q := 97) dX7_sorts_94 fX7_103 sh124 rfl rfl rfl rfl ?_
      refine fv_iinc (v := _ + 1) (q := 100) (l' := [_, _, _, _, _]) dX7_sorts_97 rfl rfl (by decide) rfl rfl rfl ?_
      refine fv_goto 7 dX7_sorts_100 (by decide) ?_
      rw [nI_1]
      obtain ⟨h1, h2⟩ := ivI_e hv rfl hk
      have e9 : srt (wl T (L.take (i + 1))) = isr (srt (wl T (L.take i))) (wo T (L.getD i 0)) := by rw [wl_take T hiL, if_neg hw, srt_push]
      refine ih (by omega) _ _ _ (hK.ua.ux) ⟨?_, ?_⟩
      · rw [up_s, pk_us, e9, isr_len]
      · rw [e9]; exact h1
    have inner : i < L.length → ¬ wo T (L.getD i 0) = 1000000 → ∀ k, k ≤ (srt (wl T (L.take i))).length → ∀ E : Nat → Nat → Int32, KW D E → E 124 21 = nI (srt (wl T (L.take i))).length → ivI (srt (wl T (L.take i))) (srt (wl T (L.take i))).length k (E0 139) (E 139) → stp (srt (wl T (L.take i))) (wo T (L.getD i 0)) (srt (wl T (L.take i))).length = stp (srt (wl T (L.take i))) (wo T (L.getD i 0)) k → FV cX7_sorts 5 none yX7_sorts.cls yX7_sorts.name 0 0 0 Post 0 0 39 [some (.ref 124), some (.ref a), some (.int (nI i)), some (.int (wo T (L.getD i 0))), some (.int (nI k))] [] (lay E J) := by
      intro hiL hw
      refine dn_ind (fun k ih2 => ?_)
      intro hki E hK h21 hv hstp
      refine fv_iload (q := 41) dX7_sorts_39 rfl rfl ?_
      refine fv_if_le (q := 44) 79 dX7_sorts_41 (by decide) rfl (fun c41 => ?_) (fun c41 => ?_)
      · have hk0 : k = 0 := by rcases Nat.eq_zero_or_pos k with q | q; exact q; exact absurd c41 (nI_nle q (by omega))
        exact fin hiL hw _ (by omega) _ hK h21 hv (by rw [hstp, hk0]; rfl)
      · obtain ⟨k, rfl⟩ := nI_sp c41
        refine fv_aload_n (q := 45) dX7_sorts_44 rfl rfl ?_
        refine fl_getR (q := 48) dX7_sorts_45 fX7_53 sh124 rfl rfl ?_
        refine fv_iload (q := 50) dX7_sorts_48 rfl rfl ?_
        refine fv_iconst (v := 1) (q := 51) dX7_sorts_50 (by decide) rfl ?_
        refine fv_isub (q := 52) dX7_sorts_51 rfl ?_
        refine fv_top (nI_pred k) ?_
        refine fl_iald (q := 53) k dX7_sorts_52 sh139 (by decide) rfl (by omega) rfl ?_
        refine fv_top (hv.1 k (by omega)) ?_
        refine fv_iload_n (q := 54) dX7_sorts_53 rfl rfl ?_
        refine fv_icmp_le (q := 57) 79 dX7_sorts_54 (by decide) rfl (fun c54 => ?_) (fun c54 => ?_)
        · exact fin hiL hw _ (by omega) _ hK h21 hv (by rw [hstp, stp, if_neg (Int32.not_lt.mpr c54)])
        · refine fv_aload_n (q := 58) dX7_sorts_57 rfl rfl ?_
          refine fl_getR (q := 61) dX7_sorts_58 fX7_53 sh124 rfl rfl ?_
          refine fv_iload (q := 63) dX7_sorts_61 rfl rfl ?_
          refine fv_aload_n (q := 64) dX7_sorts_63 rfl rfl ?_
          refine fl_getR (q := 67) dX7_sorts_64 fX7_53 sh124 rfl rfl ?_
          refine fv_iload (q := 69) dX7_sorts_67 rfl rfl ?_
          refine fv_iconst (v := 1) (q := 70) dX7_sorts_69 (by decide) rfl ?_
          refine fv_isub (q := 71) dX7_sorts_70 rfl ?_
          refine fv_top (nI_pred k) ?_
          refine fl_iald (q := 72) k dX7_sorts_71 sh139 (by decide) rfl (by omega) rfl ?_
          refine fl_iast (q := 73) (k + 1) dX7_sorts_72 sh139 (by decide) rfl (by omega) rfl ?_
          refine fv_iinc (v := _ + (-1)) (q := 76) (l' := [_, _, _, _, _]) dX7_sorts_73 rfl rfl (by decide) rfl rfl rfl ?_
          refine fv_goto 39 dX7_sorts_76 (by decide) ?_
          rw [pk_m1]
          refine ih2 (by omega) (by omega) _ hK.ua h21 ?_ ?_
          · exact ivI_s hv (by omega)
          · rw [hstp, stp, if_pos (Int32.not_le.mp c54)]; rfl
    refine fv_iload_n (q := 8) dX7_sorts_7 rfl rfl ?_
    refine fv_aload_n (q := 9) dX7_sorts_8 rfl rfl ?_
    refine fl_getI (q := 12) dX7_sorts_9 fX7_100 sh124 rfl rfl ?_
    refine fv_top (y := nI L.length) (by rw [hK.1 18 (by decide)]; exact hS.1) ?_
    refine fv_icmp_ge (q := 15) 103 dX7_sorts_12 (by decide) rfl (fun c12 => ?_) (fun c12 => ?_)
    · rw [nI_leI (by omega) (by omega)] at c12
      have hin : i = L.length := by omega
      subst hin
      refine fv_vret dX7_sorts_103 rfl rfl (Nat.le_refl _) ?_
      rw [List.take_length] at hW
      exact hPost _ _ _ ⟨rfl, rfl, hW, hK⟩
    · rw [nI_leI (by omega) (by omega)] at c12
      have hiL : i < L.length := by omega
      have hxi := hx _ (getD_mem (z := 0) hiL)
      refine fv_aload_n (q := 16) dX7_sorts_15 rfl rfl ?_
      refine fv_bipush (v := 86) (q := 18) dX7_sorts_16 (by decide) rfl ?_
      refine fv_aload_n (q := 19) dX7_sorts_18 rfl rfl ?_
      refine fl_getR (q := 22) dX7_sorts_19 fX7_50 sh124 rfl rfl ?_
      refine fv_iload_n (q := 23) dX7_sorts_22 rfl rfl ?_
      refine fl_iald (q := 24) i dX7_sorts_23 sh138 (by decide) rfl (by omega) rfl ?_
      refine fv_top (y := nI (L.getD i 0)) (by rw [hK.2 138 (by decide) (by decide)]; exact holN_get hS.2 hiL 0) ?_
      refine fv_iadd (q := 25) dX7_sorts_24 rfl ?_
      refine fl_iald (q := 26) (86 + L.getD i 0) dX7_sorts_25 ha (by decide) (nI_add 86 _) (by omega) rfl ?_
      refine fv_top (y := wo T (L.getD i 0)) (by rw [hK.2 a (by omega) (by omega)]; exact hM _ (by omega)) ?_
      refine fv_istore_n (i := 3) (q := 27) (l' := [_, _, _, _, _]) dX7_sorts_26 rfl (by decide) rfl rfl rfl ?_
      refine fv_iload_n (q := 28) dX7_sorts_27 rfl rfl ?_
      refine fv_ldc (q := 30) dX7_sorts_28 kX7_66 rfl ?_
      refine fv_icmp_eq (q := 33) 97 dX7_sorts_30 (by decide) rfl (fun c30 => ?_) (fun c30 => ?_)
      · refine fv_iinc (v := _ + 1) (q := 100) (l' := [_, _, _, _, _]) dX7_sorts_97 rfl rfl (by decide) rfl rfl rfl ?_
        refine fv_goto 7 dX7_sorts_100 (by decide) ?_
        rw [nI_1]
        refine ih (by omega) _ _ E0 hK ?_
        rw [wl_take T hiL, if_pos c30, List.append_nil]; exact hW
      · refine fv_aload_n (q := 34) dX7_sorts_33 rfl rfl ?_
        refine fl_getI (q := 37) dX7_sorts_34 fX7_103 sh124 rfl rfl ?_
        refine fv_top (y := nI (srt (wl T (L.take i))).length) hW.1 ?_
        refine fv_istore (q := 39) (l' := [_, _, _, _, _]) dX7_sorts_37 (by decide) rfl rfl rfl ?_
        exact inner hiL c30 _ (Nat.le_refl _) _ hK hW.1 (ivI_0 hW.2 rfl) rfl
  refine fv_aload_n (q := 1) dX7_sorts_0 rfl rfl ?_
  refine fv_iconst (v := 0) (q := 2) dX7_sorts_1 (by decide) rfl ?_
  refine fl_putI (q := 5) dX7_sorts_2 fX7_103 sh124 rfl rfl rfl rfl ?_
  refine fv_iconst (v := 0) (q := 6) dX7_sorts_5 (by decide) rfl ?_
  refine fv_istore_n (i := 2) (q := 7) (l' := [_, _, _, _, _]) dX7_sorts_6 rfl (by decide) rfl rfl rfl ?_
  exact outer 0 (Nat.zero_le _) _ _ _ (KW.rf D).ux ⟨by rw [up_s, pk_us]; rfl, hold_nil _⟩
set_option maxHeartbeats 4000000 in
set_option maxRecDepth 100000 in
theorem m_sumOf (D : Nat → Nat → Int32) (J : Nat → Nat → Int64) (W : List Int32) (hS : WoS D W) (hW : W.length ≤ 40) : FI yX7_sumOf cX7_sumOf 3 (some .int) 0 [.ref 124] D J (smL W) := by
  refine FI.of (by decide) rfl (Nat.le_of_ble_eq_true rfl) (fun Post hPost => ?_)
  show FV _ _ _ _ _ _ _ _ _ _ _ _ [_, _, _] [] _
  have loop : ∀ i, i ≤ W.length → FV cX7_sumOf 3 (some .int) yX7_sumOf.cls yX7_sumOf.name 0 0 0 Post 0 0 4 [some (.ref 124), some (.int (smL (W.take i))), some (.int (nI i))] [] (lay D J) := by
    refine up_ind (fun i hi ih => ?_)
    refine fv_iload_n (q := 5) dX7_sumOf_4 rfl rfl ?_
    refine fv_aload_n (q := 6) dX7_sumOf_5 rfl rfl ?_
    refine fl_getI (q := 9) dX7_sumOf_6 fX7_103 sh124 rfl rfl ?_
    refine fv_top (y := nI W.length) hS.1 ?_
    refine fv_icmp_ge (q := 12) 27 dX7_sumOf_9 (by decide) rfl (fun c9 => ?_) (fun c9 => ?_)
    · rw [nI_leI (by omega) (by omega)] at c9
      have hin : i = W.length := by omega
      subst hin
      refine fv_iload_n (q := 28) dX7_sumOf_27 rfl rfl ?_
      refine fv_iret dX7_sumOf_28 rfl rfl (Nat.le_refl _) ?_
      exact fi_r hPost (by rw [List.take_length])
    · rw [nI_leI (by omega) (by omega)] at c9
      refine fv_iload_n (q := 13) dX7_sumOf_12 rfl rfl ?_
      refine fv_aload_n (q := 14) dX7_sumOf_13 rfl rfl ?_
      refine fl_getR (q := 17) dX7_sumOf_14 fX7_53 sh124 rfl rfl ?_
      refine fv_iload_n (q := 18) dX7_sumOf_17 rfl rfl ?_
      refine fl_iald (q := 19) _ dX7_sumOf_18 sh139 (by decide) rfl (by omega) rfl ?_
      refine fv_top (hold_get hS.2 (by omega) 0) ?_
      refine fv_iadd (q := 20) dX7_sumOf_19 rfl ?_
      refine fv_top (smL_take W (by omega)).symm ?_
      refine fv_istore_n (i := 1) (q := 21) (l' := [_, _, _]) dX7_sumOf_20 rfl (by decide) rfl rfl rfl ?_
      refine fv_iinc (v := _ + 1) (q := 24) (l' := [_, _, _]) dX7_sumOf_21 rfl rfl (by decide) rfl rfl rfl ?_
      refine fv_goto 4 dX7_sumOf_24 (by decide) ?_
      rw [nI_1]
      exact ih (by omega)
  refine fv_iconst (v := 0) (q := 1) dX7_sumOf_0 (by decide) rfl ?_
  refine fv_istore_n (i := 1) (q := 2) (l' := [_, _, _]) dX7_sumOf_1 rfl (by decide) rfl rfl rfl ?_
  refine fv_iconst (v := 0) (q := 3) dX7_sumOf_2 (by decide) rfl ?_
  refine fv_istore_n (i := 2) (q := 4) (l' := [_, _, _]) dX7_sumOf_3 rfl (by decide) rfl rfl rfl ?_
  exact loop 0 (Nat.zero_le _)
set_option maxHeartbeats 4000000 in
set_option maxRecDepth 100000 in
theorem m_unlikeOf (D : Nat → Nat → Int32) (J : Nat → Nat → Int64) (W : List Int32) (hS : WoS D W) (hW : W.length ≤ 40) : FI yX7_unlikeOf cX7_unlikeOf 3 (some .int) 0 [.ref 124] D J (nI (ulk W W.length)) := by
  refine FI.of (by decide) rfl (Nat.le_of_ble_eq_true rfl) (fun Post hPost => ?_)
  show FV _ _ _ _ _ _ _ _ _ _ _ _ [_, _, _] [] _
  have loop : ∀ i, i ≤ W.length → FV cX7_unlikeOf 3 (some .int) yX7_unlikeOf.cls yX7_unlikeOf.name 0 0 0 Post 0 0 4 [some (.ref 124), some (.int (nI (ulk W i))), some (.int (nI i))] [] (lay D J) := by
    refine up_ind (fun i hi ih => ?_)
    unfold ulk at ih ⊢
    refine fv_iload_n (q := 5) dX7_unlikeOf_4 rfl rfl ?_
    refine fv_aload_n (q := 6) dX7_unlikeOf_5 rfl rfl ?_
    refine fl_getI (q := 9) dX7_unlikeOf_6 fX7_103 sh124 rfl rfl ?_
    refine fv_top (y := nI W.length) hS.1 ?_
    refine fv_icmp_ge (q := 12) 47 dX7_unlikeOf_9 (by decide) rfl (fun c9 => ?_) (fun c9 => ?_)
    · rw [nI_leI (by omega) (by omega)] at c9
      have hin : i = W.length := by omega
      subst hin
      refine fv_iload_n (q := 48) dX7_unlikeOf_47 rfl rfl ?_
      refine fv_iret dX7_unlikeOf_48 rfl rfl (Nat.le_refl _) ?_
      exact hPost
    · rw [nI_leI (by omega) (by omega)] at c9
      refine fv_iload_n (q := 13) dX7_unlikeOf_12 rfl rfl ?_
      refine fv_iload_n (q := 14) dX7_unlikeOf_13 rfl rfl ?_
      refine fv_if_eq (q := 17) 34 dX7_unlikeOf_14 (by decide) rfl (fun c14 => ?_) (fun c14 => ?_)
      · rw [nI_z (by omega)] at c14
        refine fv_iconst (v := 1) (q := 35) dX7_unlikeOf_34 (by decide) rfl ?_
        refine fv_goto 39 dX7_unlikeOf_35 (by decide) ?_
        refine fv_iadd (q := 40) dX7_unlikeOf_39 rfl ?_
        refine fv_istore_n (i := 1) (q := 41) (l' := [_, _, _]) dX7_unlikeOf_40 rfl (by decide) rfl rfl rfl ?_
        refine fv_iinc (v := _ + 1) (q := 44) (l' := [_, _, _]) dX7_unlikeOf_41 rfl rfl (by decide) rfl rfl rfl ?_
        refine fv_goto 4 dX7_unlikeOf_44 (by decide) ?_
        have h9 := ih (by omega)
        rw [ct_t (p := fun i => decide (i = 0 ∨ ¬ W.getD i 0 = W.getD (i - 1) 0)) (decide_eq_true (Or.inl c14))] at h9
        rw [nI_1, nI_1]
        exact h9
      · rw [nI_z (by omega)] at c14
        refine fv_aload_n (q := 18) dX7_unlikeOf_17 rfl rfl ?_
        refine fl_getR (q := 21) dX7_unlikeOf_18 fX7_53 sh124 rfl rfl ?_
        refine fv_iload_n (q := 22) dX7_unlikeOf_21 rfl rfl ?_
        refine fl_iald (q := 23) i dX7_unlikeOf_22 sh139 (by decide) rfl (by omega) rfl ?_
        refine fv_top (hold_get hS.2 (by omega) 0) ?_
        refine fv_aload_n (q := 24) dX7_unlikeOf_23 rfl rfl ?_
        refine fl_getR (q := 27) dX7_unlikeOf_24 fX7_53 sh124 rfl rfl ?_
        refine fv_iload_n (q := 28) dX7_unlikeOf_27 rfl rfl ?_
        refine fv_iconst (v := 1) (q := 29) dX7_unlikeOf_28 (by decide) rfl ?_
        refine fv_isub (q := 30) dX7_unlikeOf_29 rfl ?_
        refine fv_top (nI_mm (by omega)) ?_
        refine fl_iald (q := 31) (i - 1) dX7_unlikeOf_30 sh139 (by decide) rfl (by omega) rfl ?_
        refine fv_top (hold_get hS.2 (by omega) 0) ?_
        refine fv_icmp_eq (q := 34) 38 dX7_unlikeOf_31 (by decide) rfl (fun c31 => ?_) (fun c31 => ?_)
        · refine fv_iconst (v := 0) (q := 39) dX7_unlikeOf_38 (by decide) rfl ?_
          refine fv_iadd (q := 40) dX7_unlikeOf_39 rfl ?_
          refine fv_istore_n (i := 1) (q := 41) (l' := [_, _, _]) dX7_unlikeOf_40 rfl (by decide) rfl rfl rfl ?_
          refine fv_iinc (v := _ + 1) (q := 44) (l' := [_, _, _]) dX7_unlikeOf_41 rfl rfl (by decide) rfl rfl rfl ?_
          refine fv_goto 4 dX7_unlikeOf_44 (by decide) ?_
          have h9 := ih (by omega)
          rw [ct_f (p := fun i => decide (i = 0 ∨ ¬ W.getD i 0 = W.getD (i - 1) 0)) (decide_eq_false (fun z => z.elim c14 (fun y => y c31)))] at h9
          rw [nI_1, show (0 : Int32) = nI 0 from rfl, nI_add]
          exact h9
        · refine fv_iconst (v := 1) (q := 35) dX7_unlikeOf_34 (by decide) rfl ?_
          refine fv_goto 39 dX7_unlikeOf_35 (by decide) ?_
          refine fv_iadd (q := 40) dX7_unlikeOf_39 rfl ?_
          refine fv_istore_n (i := 1) (q := 41) (l' := [_, _, _]) dX7_unlikeOf_40 rfl (by decide) rfl rfl rfl ?_
          refine fv_iinc (v := _ + 1) (q := 44) (l' := [_, _, _]) dX7_unlikeOf_41 rfl rfl (by decide) rfl rfl rfl ?_
          refine fv_goto 4 dX7_unlikeOf_44 (by decide) ?_
          have h9 := ih (by omega)
          rw [ct_t (p := fun i => decide (i = 0 ∨ ¬ W.getD i 0 = W.getD (i - 1) 0)) (decide_eq_true (Or.inr c31))] at h9
          rw [nI_1, nI_1]
          exact h9
  refine fv_iconst (v := 0) (q := 1) dX7_unlikeOf_0 (by decide) rfl ?_
  refine fv_istore_n (i := 1) (q := 2) (l' := [_, _, _]) dX7_unlikeOf_1 rfl (by decide) rfl rfl rfl ?_
  refine fv_iconst (v := 0) (q := 3) dX7_unlikeOf_2 (by decide) rfl ?_
  refine fv_istore_n (i := 2) (q := 4) (l' := [_, _, _]) dX7_unlikeOf_3 rfl (by decide) rfl rfl rfl ?_
  exact loop 0 (Nat.zero_le _)
set_option maxHeartbeats 4000000 in
set_option maxRecDepth 100000 in
theorem m_ofFrame (a : Nat) (ha : shL[a]? = some (.inl (0, 126))) (D : Nat → Nat → Int32) (J : Nat → Nat → Int64) (T : Nat → Int32) (hM : MT D a T) (n : Nat) (v : VT T n) (ha2 : 124 < a ∧ a < 131) (hL : LaidM D T n) (r : Nat) (hr : r < n) (w : Int32) : FD yX7_ofFrame cX7_ofFrame 4 (some .int) 4 [.ref 124, .ref a, .int (nI r), .int w] D J (fun res D' J' => res = some (.int (ans T n r w)) ∧ J' = J ∧ KF D D') := by
  refine FD.of (by decide) rfl (Nat.le_of_ble_eq_true rfl) (fun Post hPost => ?_)
  show FV _ _ _ _ _ _ _ _ _ _ _ _ [_, _, _, _] [] _
  have hlen : (frL T n r n).length ≤ 40 := by have := frL_len T n r n; have := v.2.1; omega
  have hx : ∀ x, x ∈ frL T n r n → x < 40 := fun x h => by have := (frL_mem (Nat.le_refl _) h).1; have := v.2.1; omega
  refine fv_aload_n (q := 1) dX7_ofFrame_0 rfl rfl ?_
  refine fv_aload_n (q := 2) dX7_ofFrame_1 rfl rfl ?_
  refine fv_iload_n (q := 3) dX7_ofFrame_2 rfl rfl ?_
  refine fl_callV (As := [_, _]) (q := 6) dX7_ofFrame_3 gX7_106 rfl sh124 rfl rfl (Nat.le_of_ble_eq_true rfl) rfl (by decide) (m_frames a ha D J T hM n v ha2 hL r hr) (fun res D1 J1 hp => ?_)
  obtain ⟨rfl, rfl, hKF, hS⟩ := hp
  refine fv_aload_n (q := 7) dX7_ofFrame_6 rfl rfl ?_
  refine fv_aload_n (q := 8) dX7_ofFrame_7 rfl rfl ?_
  refine fl_callV (As := [_]) (q := 11) dX7_ofFrame_8 gX7_109 rfl sh124 rfl rfl (Nat.le_of_ble_eq_true rfl) rfl (by decide) (m_sorts a ha D1 J1 T (hKF.mt hM ha2) ha2 _ hlen hx hS) (fun res D2 J2 hp => ?_)
  obtain ⟨rfl, rfl, hW, hKW⟩ := hp
  have hS2 := hKW.fr hS
  have hM2 := (hKF.tr hKW.kf).mt hM ha2
  have hW4 : (srt (wl T (frL T n r n))).length ≤ 40 := by rw [srt_len]; exact Nat.le_trans (wl_len _ _) hlen
  refine fv_iload_n (q := 12) dX7_ofFrame_11 rfl rfl ?_
  have w0 : w = 0 → FV cX7_ofFrame 4 (some .int) yX7_ofFrame.cls yX7_ofFrame.name 4 0 0 Post 0 0 60 [some (.ref 124), some (.ref a), some (.int (nI r)), some (.int w)] [] (lay D2 J2) := by
    intro h0
    refine fv_aload_n (q := 61) dX7_ofFrame_60 rfl rfl ?_
    refine fl_getI (q := 64) dX7_ofFrame_61 fX7_100 sh124 rfl rfl ?_
    refine fv_top (y := nI (frL T n r n).length) hS2.1 ?_
    refine fv_iret dX7_ofFrame_64 rfl rfl (Nat.le_refl _) ?_
    refine hPost _ _ _ ⟨?_, rfl, hKF.tr hKW.kf⟩
    unfold ans; rw [if_pos h0]
  have w1 : ¬ w = 0 → w = 1 → FV cX7_ofFrame 4 (some .int) yX7_ofFrame.cls yX7_ofFrame.name 4 0 0 Post 0 0 65 [some (.ref 124), some (.ref a), some (.int (nI r)), some (.int w)] [] (lay D2 J2) := by
    intro h0 h1
    refine fv_aload_n (q := 66) dX7_ofFrame_65 rfl rfl ?_
    refine fl_getI (q := 69) dX7_ofFrame_66 fX7_103 sh124 rfl rfl ?_
    refine fv_top (y := nI (srt (wl T (frL T n r n))).length) hW.1 ?_
    refine fv_iret dX7_ofFrame_69 rfl rfl (Nat.le_refl _) ?_
    refine hPost _ _ _ ⟨?_, rfl, hKF.tr hKW.kf⟩
    unfold ans; rw [if_neg h0, if_pos h1]
    rw [srt_len]
  have w2 : ¬ w = 0 → ¬ w = 1 → w = 2 → FV cX7_ofFrame 4 (some .int) yX7_ofFrame.cls yX7_ofFrame.name 4 0 0 Post 0 0 70 [some (.ref 124), some (.ref a), some (.int (nI r)), some (.int w)] [] (lay D2 J2) := by
    intro h0 h1 h2
    refine fv_aload_n (q := 71) dX7_ofFrame_70 rfl rfl ?_
    refine fl_callVi (As := []) (q := 74) dX7_ofFrame_71 gX7_113 rfl sh124 rfl rfl (Nat.le_of_ble_eq_true rfl) rfl (by decide) (m_sumOf D2 J2 _ hW hW4) ?_
    refine fv_iret dX7_ofFrame_74 rfl rfl (Nat.le_refl _) ?_
    refine hPost _ _ _ ⟨?_, rfl, hKF.tr hKW.kf⟩
    unfold ans; rw [if_neg h0, if_neg h1, if_pos h2]
    rw [smL_srt]
  have w3 : ¬ w = 0 → ¬ w = 1 → ¬ w = 2 → w = 3 → FV cX7_ofFrame 4 (some .int) yX7_ofFrame.cls yX7_ofFrame.name 4 0 0 Post 0 0 75 [some (.ref 124), some (.ref a), some (.int (nI r)), some (.int w)] [] (lay D2 J2) := by
    intro h0 h1 h2 h3
    refine fv_aload_n (q := 76) dX7_ofFrame_75 rfl rfl ?_
    refine fl_getI (q := 79) dX7_ofFrame_76 fX7_103 sh124 rfl rfl ?_
    refine fv_top (y := nI (srt (wl T (frL T n r n))).length) hW.1 ?_
    refine fv_if_ne (q := 82) 87 dX7_ofFrame_79 (by decide) rfl (fun c79 => ?_) (fun c79 => ?_)
    · rw [nI_z (by omega)] at c79
      refine fv_aload_n (q := 88) dX7_ofFrame_87 rfl rfl ?_
      refine fl_getR (q := 91) dX7_ofFrame_88 fX7_53 sh124 rfl rfl ?_
      refine fv_iconst (v := 0) (q := 92) dX7_ofFrame_91 (by decide) rfl ?_
      refine fl_iald (q := 93) 0 dX7_ofFrame_92 sh139 (by decide) rfl (by omega) rfl ?_
      refine fv_top (hold_get hW.2 (by omega) 1000000) ?_
      refine fv_iret dX7_ofFrame_93 rfl rfl (Nat.le_refl _) ?_
      refine hPost _ _ _ ⟨?_, rfl, hKF.tr hKW.kf⟩
      unfold ans; rw [if_neg h0, if_neg h1, if_neg h2, if_pos h3]
    · rw [nI_z (by omega)] at c79
      refine fv_ldc (q := 84) dX7_ofFrame_82 kX7_66 rfl ?_
      refine fv_goto 93 dX7_ofFrame_84 (by decide) ?_
      refine fv_iret dX7_ofFrame_93 rfl rfl (Nat.le_refl _) ?_
      refine hPost _ _ _ ⟨?_, rfl, hKF.tr hKW.kf⟩
      unfold ans; rw [if_neg h0, if_neg h1, if_neg h2, if_pos h3]
      rw [List.length_eq_zero_iff.mp c79]; rfl
  have w4 : ¬ w = 0 → ¬ w = 1 → ¬ w = 2 → ¬ w = 3 → w = 4 → FV cX7_ofFrame 4 (some .int) yX7_ofFrame.cls yX7_ofFrame.name 4 0 0 Post 0 0 94 [some (.ref 124), some (.ref a), some (.int (nI r)), some (.int w)] [] (lay D2 J2) := by
    intro h0 h1 h2 h3 h4
    refine fv_aload_n (q := 95) dX7_ofFrame_94 rfl rfl ?_
    refine fl_getI (q := 98) dX7_ofFrame_95 fX7_103 sh124 rfl rfl ?_
    refine fv_top (y := nI (srt (wl T (frL T n r n))).length) hW.1 ?_
    refine fv_if_ne (q := 101) 106 dX7_ofFrame_98 (by decide) rfl (fun c98 => ?_) (fun c98 => ?_)
    · rw [nI_z (by omega)] at c98
      refine fv_aload_n (q := 107) dX7_ofFrame_106 rfl rfl ?_
      refine fl_getR (q := 110) dX7_ofFrame_107 fX7_53 sh124 rfl rfl ?_
      refine fv_aload_n (q := 111) dX7_ofFrame_110 rfl rfl ?_
      refine fl_getI (q := 114) dX7_ofFrame_111 fX7_103 sh124 rfl rfl ?_
      refine fv_top (y := nI (srt (wl T (frL T n r n))).length) hW.1 ?_
      refine fv_iconst (v := 1) (q := 115) dX7_ofFrame_114 (by decide) rfl ?_
      refine fv_isub (q := 116) dX7_ofFrame_115 rfl ?_
      refine fv_top (nI_mm (by omega)) ?_
      refine fl_iald (q := 117) ((srt (wl T (frL T n r n))).length - 1) dX7_ofFrame_116 sh139 (by decide) rfl (by omega) rfl ?_
      refine fv_top (hold_get hW.2 (by omega) 1000000) ?_
      refine fv_iret dX7_ofFrame_117 rfl rfl (Nat.le_refl _) ?_
      refine hPost _ _ _ ⟨?_, rfl, hKF.tr hKW.kf⟩
      unfold ans; rw [if_neg h0, if_neg h1, if_neg h2, if_neg h3, if_pos h4]
    · rw [nI_z (by omega)] at c98
      refine fv_ldc (q := 103) dX7_ofFrame_101 kX7_66 rfl ?_
      refine fv_goto 117 dX7_ofFrame_103 (by decide) ?_
      refine fv_iret dX7_ofFrame_117 rfl rfl (Nat.le_refl _) ?_
      refine hPost _ _ _ ⟨?_, rfl, hKF.tr hKW.kf⟩
      unfold ans; rw [if_neg h0, if_neg h1, if_neg h2, if_neg h3, if_pos h4]
      rw [List.length_eq_zero_iff.mp c98]; rfl
  have w5 : ¬ w = 0 → ¬ w = 1 → ¬ w = 2 → ¬ w = 3 → ¬ w = 4 → w = 5 → FV cX7_ofFrame 4 (some .int) yX7_ofFrame.cls yX7_ofFrame.name 4 0 0 Post 0 0 118 [some (.ref 124), some (.ref a), some (.int (nI r)), some (.int w)] [] (lay D2 J2) := by
    intro h0 h1 h2 h3 h4 h5
    refine fv_aload_n (q := 119) dX7_ofFrame_118 rfl rfl ?_
    refine fl_getI (q := 122) dX7_ofFrame_119 fX7_100 sh124 rfl rfl ?_
    refine fv_top (y := nI (frL T n r n).length) hS2.1 ?_
    refine fv_if_ne (q := 125) 130 dX7_ofFrame_122 (by decide) rfl (fun c122 => ?_) (fun c122 => ?_)
    · rw [nI_z (by omega)] at c122
      refine fv_aload_n (q := 131) dX7_ofFrame_130 rfl rfl ?_
      refine fv_bipush (v := 86) (q := 133) dX7_ofFrame_131 (by decide) rfl ?_
      refine fv_aload_n (q := 134) dX7_ofFrame_133 rfl rfl ?_
      refine fl_getR (q := 137) dX7_ofFrame_134 fX7_50 sh124 rfl rfl ?_
      refine fv_iconst (v := 0) (q := 138) dX7_ofFrame_137 (by decide) rfl ?_
      refine fl_iald (q := 139) 0 dX7_ofFrame_138 sh138 (by decide) rfl (by omega) rfl ?_
      refine fv_top (holN_get hS2.2 (by omega) 0) ?_
      have hq := hx _ (getD_mem (z := 0) (j := 0) (L := (frL T n r n)) (by omega))
      refine fv_iadd (q := 140) dX7_ofFrame_139 rfl ?_
      refine fl_iald (q := 141) (86 + (frL T n r n).getD 0 0) dX7_ofFrame_140 ha (by decide) (nI_add 86 _) (by omega) rfl ?_
      refine fv_top (hM2 _ (by omega)) ?_
      refine fv_iret dX7_ofFrame_141 rfl rfl (Nat.le_refl _) ?_
      refine hPost _ _ _ ⟨?_, rfl, hKF.tr hKW.kf⟩
      unfold ans; rw [if_neg h0, if_neg h1, if_neg h2, if_neg h3, if_neg h4, if_pos h5]
      rw [mapD (by omega)]; rfl
    · rw [nI_z (by omega)] at c122
      refine fv_ldc (q := 127) dX7_ofFrame_125 kX7_66 rfl ?_
      refine fv_goto 141 dX7_ofFrame_127 (by decide) ?_
      refine fv_iret dX7_ofFrame_141 rfl rfl (Nat.le_refl _) ?_
      refine hPost _ _ _ ⟨?_, rfl, hKF.tr hKW.kf⟩
      unfold ans; rw [if_neg h0, if_neg h1, if_neg h2, if_neg h3, if_neg h4, if_pos h5]
      rw [List.length_eq_zero_iff.mp c122]; rfl
  have w6 : ¬ w = 0 → ¬ w = 1 → ¬ w = 2 → ¬ w = 3 → ¬ w = 4 → ¬ w = 5 → w = 6 → FV cX7_ofFrame 4 (some .int) yX7_ofFrame.cls yX7_ofFrame.name 4 0 0 Post 0 0 142 [some (.ref 124), some (.ref a), some (.int (nI r)), some (.int w)] [] (lay D2 J2) := by
    intro h0 h1 h2 h3 h4 h5 h6
    refine fv_aload_n (q := 143) dX7_ofFrame_142 rfl rfl ?_
    refine fl_getI (q := 146) dX7_ofFrame_143 fX7_100 sh124 rfl rfl ?_
    refine fv_top (y := nI (frL T n r n).length) hS2.1 ?_
    refine fv_if_ne (q := 149) 154 dX7_ofFrame_146 (by decide) rfl (fun c146 => ?_) (fun c146 => ?_)
    · rw [nI_z (by omega)] at c146
      refine fv_aload_n (q := 155) dX7_ofFrame_154 rfl rfl ?_
      refine fv_bipush (v := 86) (q := 157) dX7_ofFrame_155 (by decide) rfl ?_
      refine fv_aload_n (q := 158) dX7_ofFrame_157 rfl rfl ?_
      refine fl_getR (q := 161) dX7_ofFrame_158 fX7_50 sh124 rfl rfl ?_
      refine fv_aload_n (q := 162) dX7_ofFrame_161 rfl rfl ?_
      refine fl_getI (q := 165) dX7_ofFrame_162 fX7_100 sh124 rfl rfl ?_
      refine fv_top (y := nI (frL T n r n).length) hS2.1 ?_
      refine fv_iconst (v := 1) (q := 166) dX7_ofFrame_165 (by decide) rfl ?_
      refine fv_isub (q := 167) dX7_ofFrame_166 rfl ?_
      refine fv_top (nI_mm (by omega)) ?_
      refine fl_iald (q := 168) ((frL T n r n).length - 1) dX7_ofFrame_167 sh138 (by decide) rfl (by omega) rfl ?_
      refine fv_top (holN_get hS2.2 (by omega) 0) ?_
      have hq := hx _ (getD_mem (z := 0) (j := (frL T n r n).length - 1) (L := (frL T n r n)) (by omega))
      refine fv_iadd (q := 169) dX7_ofFrame_168 rfl ?_
      refine fl_iald (q := 170) (86 + (frL T n r n).getD ((frL T n r n).length - 1) 0) dX7_ofFrame_169 ha (by decide) (nI_add 86 _) (by omega) rfl ?_
      refine fv_top (hM2 _ (by omega)) ?_
      refine fv_iret dX7_ofFrame_170 rfl rfl (Nat.le_refl _) ?_
      refine hPost _ _ _ ⟨?_, rfl, hKF.tr hKW.kf⟩
      unfold ans; rw [if_neg h0, if_neg h1, if_neg h2, if_neg h3, if_neg h4, if_neg h5, if_pos h6]
      rw [mapD (by omega)]; rfl
    · rw [nI_z (by omega)] at c146
      refine fv_ldc (q := 151) dX7_ofFrame_149 kX7_66 rfl ?_
      refine fv_goto 170 dX7_ofFrame_151 (by decide) ?_
      refine fv_iret dX7_ofFrame_170 rfl rfl (Nat.le_refl _) ?_
      refine hPost _ _ _ ⟨?_, rfl, hKF.tr hKW.kf⟩
      unfold ans; rw [if_neg h0, if_neg h1, if_neg h2, if_neg h3, if_neg h4, if_neg h5, if_pos h6]
      rw [List.length_eq_zero_iff.mp c146]; rfl
  have w7 : ¬ w = 0 → ¬ w = 1 → ¬ w = 2 → ¬ w = 3 → ¬ w = 4 → ¬ w = 5 → ¬ w = 6 → w = 7 → FV cX7_ofFrame 4 (some .int) yX7_ofFrame.cls yX7_ofFrame.name 4 0 0 Post 0 0 171 [some (.ref 124), some (.ref a), some (.int (nI r)), some (.int w)] [] (lay D2 J2) := by
    intro h0 h1 h2 h3 h4 h5 h6 h7
    refine fv_aload_n (q := 172) dX7_ofFrame_171 rfl rfl ?_
    refine fl_callVi (As := []) (q := 175) dX7_ofFrame_172 gX7_117 rfl sh124 rfl rfl (Nat.le_of_ble_eq_true rfl) rfl (by decide) (m_unlikeOf D2 J2 _ hW hW4) ?_
    refine fv_iret dX7_ofFrame_175 rfl rfl (Nat.le_refl _) ?_
    refine hPost _ _ _ ⟨?_, rfl, hKF.tr hKW.kf⟩
    unfold ans; rw [if_neg h0, if_neg h1, if_neg h2, if_neg h3, if_neg h4, if_neg h5, if_neg h6, if_pos h7]
  have wd : ¬ w = 0 → ¬ w = 1 → ¬ w = 2 → ¬ w = 3 → ¬ w = 4 → ¬ w = 5 → ¬ w = 6 → ¬ w = 7 → FV cX7_ofFrame 4 (some .int) yX7_ofFrame.cls yX7_ofFrame.name 4 0 0 Post 0 0 176 [some (.ref 124), some (.ref a), some (.int (nI r)), some (.int w)] [] (lay D2 J2) := by
    intro h0 h1 h2 h3 h4 h5 h6 h7
    refine fv_aload_n (q := 177) dX7_ofFrame_176 rfl rfl ?_
    refine fl_getI (q := 180) dX7_ofFrame_177 fX7_103 sh124 rfl rfl ?_
    refine fv_top (y := nI (srt (wl T (frL T n r n))).length) hW.1 ?_
    refine fv_if_ne (q := 183) 188 dX7_ofFrame_180 (by decide) rfl (fun c180 => ?_) (fun c180 => ?_)
    · rw [nI_z (by omega)] at c180
      refine fv_aload_n (q := 189) dX7_ofFrame_188 rfl rfl ?_
      refine fl_getR (q := 192) dX7_ofFrame_189 fX7_53 sh124 rfl rfl ?_
      refine fv_aload_n (q := 193) dX7_ofFrame_192 rfl rfl ?_
      refine fl_getI (q := 196) dX7_ofFrame_193 fX7_103 sh124 rfl rfl ?_
      refine fv_top (y := nI (srt (wl T (frL T n r n))).length) hW.1 ?_
      refine fv_iconst (v := 1) (q := 197) dX7_ofFrame_196 (by decide) rfl ?_
      refine fv_isub (q := 198) dX7_ofFrame_197 rfl ?_
      refine fv_top (nI_mm (by omega)) ?_
      refine fv_iconst (v := 2) (q := 199) dX7_ofFrame_198 (by decide) rfl ?_
      refine fv_idiv (q := 200) dX7_ofFrame_199 (by decide) rfl ?_
      refine fv_top (pk_div (d := 2) (by omega) (by omega) (by omega)) ?_
      refine fl_iald (q := 201) (((srt (wl T (frL T n r n))).length - 1) / 2) dX7_ofFrame_200 sh139 (by decide) rfl (by omega) rfl ?_
      refine fv_top (hold_get hW.2 (by omega) 1000000) ?_
      refine fv_iret dX7_ofFrame_201 rfl rfl (Nat.le_refl _) ?_
      refine hPost _ _ _ ⟨?_, rfl, hKF.tr hKW.kf⟩
      unfold ans; rw [if_neg h0, if_neg h1, if_neg h2, if_neg h3, if_neg h4, if_neg h5, if_neg h6, if_neg h7]
    · rw [nI_z (by omega)] at c180
      refine fv_ldc (q := 185) dX7_ofFrame_183 kX7_66 rfl ?_
      refine fv_goto 201 dX7_ofFrame_185 (by decide) ?_
      refine fv_iret dX7_ofFrame_201 rfl rfl (Nat.le_refl _) ?_
      refine hPost _ _ _ ⟨?_, rfl, hKF.tr hKW.kf⟩
      unfold ans; rw [if_neg h0, if_neg h1, if_neg h2, if_neg h3, if_neg h4, if_neg h5, if_neg h6, if_neg h7]
      rw [List.length_eq_zero_iff.mp c180]; rfl
  by_cases h0 : w = 0
  · refine fv_top h0 ?_
    exact fv_tableIn 60 dX7_ofFrame_12 (by decide) (by decide) rfl (by decide) (w0 h0)
  · skip
    by_cases h1 : w = 1
    · refine fv_top h1 ?_
      exact fv_tableIn 65 dX7_ofFrame_12 (by decide) (by decide) rfl (by decide) (w1 h0 h1)
    · skip
      by_cases h2 : w = 2
      · refine fv_top h2 ?_
        exact fv_tableIn 70 dX7_ofFrame_12 (by decide) (by decide) rfl (by decide) (w2 h0 h1 h2)
      · skip
        by_cases h3 : w = 3
        · refine fv_top h3 ?_
          exact fv_tableIn 75 dX7_ofFrame_12 (by decide) (by decide) rfl (by decide) (w3 h0 h1 h2 h3)
        · skip
          by_cases h4 : w = 4
          · refine fv_top h4 ?_
            exact fv_tableIn 94 dX7_ofFrame_12 (by decide) (by decide) rfl (by decide) (w4 h0 h1 h2 h3 h4)
          · skip
            by_cases h5 : w = 5
            · refine fv_top h5 ?_
              exact fv_tableIn 118 dX7_ofFrame_12 (by decide) (by decide) rfl (by decide) (w5 h0 h1 h2 h3 h4 h5)
            · skip
              by_cases h6 : w = 6
              · refine fv_top h6 ?_
                exact fv_tableIn 142 dX7_ofFrame_12 (by decide) (by decide) rfl (by decide) (w6 h0 h1 h2 h3 h4 h5 h6)
              · skip
                by_cases h7 : w = 7
                · refine fv_top h7 ?_
                  exact fv_tableIn 171 dX7_ofFrame_12 (by decide) (by decide) rfl (by decide) (w7 h0 h1 h2 h3 h4 h5 h6 h7)
                · skip
                  have k0 : (w).toInt ≠ 0 := fun z => h0 (by rw [fa_eq]; exact z)
                  have k1 : (w).toInt ≠ 1 := fun z => h1 (by rw [fa_eq]; exact z)
                  have k2 : (w).toInt ≠ 2 := fun z => h2 (by rw [fa_eq]; exact z)
                  have k3 : (w).toInt ≠ 3 := fun z => h3 (by rw [fa_eq]; exact z)
                  have k4 : (w).toInt ≠ 4 := fun z => h4 (by rw [fa_eq]; exact z)
                  have k5 : (w).toInt ≠ 5 := fun z => h5 (by rw [fa_eq]; exact z)
                  have k6 : (w).toInt ≠ 6 := fun z => h6 (by rw [fa_eq]; exact z)
                  have k7 : (w).toInt ≠ 7 := fun z => h7 (by rw [fa_eq]; exact z)
                  exact fv_tableOut 176 dX7_ofFrame_12 (by omega) (by decide) (wd h0 h1 h2 h3 h4 h5 h6 h7)
