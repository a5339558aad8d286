def bdI (T : Nat → Int32) (n r : Nat) (s o : Int32) : Int32 := if s = 99 then o else if T 1 = 1 ∧ ke T r = 1000000 then msI T n r else msI T n r + s
theorem bdI_z {T : Nat → Int32} {n r : Nat} (v : VT T n) (hr : r < n) {s o : Int32} (hs : isBndI s) : (bdI T n r s o).toInt = if s = 99 then o.toInt else if T 1 = 1 ∧ ke T r = 1000000 then msz T n (pos T n r) else msz T n (pos T n r) + s.toInt := by
  have hm := msI_z v hr
  have hb := msz_b v (pos_lt (T := T) hr)
  unfold bdI
  split
  · rfl
  · rename_i h
    have h2 := bnd_b hs h
    split
    · exact hm
    · rw [fb_addI (by omega) (by omega), hm]
theorem lo_z {T : Nat → Int32} {n r : Nat} (v : VT T n) (hr : r < n) : (bdI T n r (T 2) (-2000000)).toInt = loz T n r := by
  rw [bdI_z v hr v.2.2.2.1]; rfl
theorem hi_z {T : Nat → Int32} {n r : Nat} (v : VT T n) (hr : r < n) : (bdI T n r (T 3) 2000000).toInt = hiz T n r := by
  rw [bdI_z v hr v.2.2.2.2.1]; rfl
theorem nI_m1 {x : Nat} (h : x < 2 ^ 31) : ¬ nI x = -1 := fun e => by
  have := congrArg Int32.toInt e
  rw [nI_toInt h] at this
  have m : (-1 : Int32).toInt = -1 := by decide
  omega
def LenS (D : Nat → Nat → Int32) (b : Nat) (L : List Nat) (W : List Int32) : Prop := D b 5 = nI L.length ∧ D b 6 = nI W.length ∧ holN (D (b + 10)) L ∧ hold (D (b + 11)) W
theorem LenS.of {D D' : Nat → Nat → Int32} {b : Nat} {L : List Nat} {W : List Int32} (h : LenS D b L W) (h0 : D' b = D b) (h1 : D' (b + 10) = D (b + 10)) (h2 : D' (b + 11) = D (b + 11)) : LenS D' b L W := by
  unfold LenS; rw [h0, h1, h2]; exact h
set_option maxHeartbeats 4000000 in
set_option maxRecDepth 100000 in
theorem c_bound (b : Nat) (hb : LenIx b) (D : Nat → Nat → Int32) (J : Nat → Nat → Int64) (T : Nat → Int32) (n : Nat) (hT : TabOf D (b + 2) T) (v : VT T n) (hO : OrdOf D b T n) (r : Nat) (hr : r < n) (s o : Int32) : FI yX3_bound cX3_bound 5 (some .int) 2 [.ref b, .int (nI r), .int s, .int o] D J (bdI T n r s o) := by
  refine FI.of (by decide) rfl (Nat.le_of_ble_eq_true rfl) (fun Post hPost => ?_)
  show FV _ _ _ _ _ _ _ _ _ _ _ _ [_, _, _, _, _] [] _
  have h40 := v.2.1
  refine fv_iload_n (q := 1) dX3_bound_0 rfl rfl ?_
  refine fv_bipush (v := 99) (q := 3) dX3_bound_1 (by decide) rfl ?_
  refine fv_icmp_ne (q := 6) 8 dX3_bound_3 (by decide) rfl (fun c3 => ?_) (fun c3 => ?_)
  · refine fv_aload_n (q := 9) dX3_bound_8 rfl rfl ?_
    refine fl_getR (q := 12) dX3_bound_9 fX3_12 hb.len rfl rfl ?_
    refine fv_iload_n (q := 13) dX3_bound_12 rfl rfl ?_
    refine fl_callVi (As := [_]) (q := 16) dX3_bound_13 gX3_75 rfl hb.ord rfl rfl (Nat.le_of_ble_eq_true rfl) rfl (by decide) (c_measure b hb D J T n hT v hO r hr) ?_
    refine fv_istore (q := 18) (l' := [_, _, _, _, _]) dX3_bound_16 (by decide) rfl rfl rfl ?_
    refine fv_aload_n (q := 19) dX3_bound_18 rfl rfl ?_
    refine fl_getR (q := 22) dX3_bound_19 fX3_22 hb.len rfl rfl ?_
    refine fl_getI (q := 25) dX3_bound_22 fX3_86 hb.tab.sh.1 rfl rfl ?_
    refine fv_top (hT.1 1 (by decide)) ?_
    refine fv_iconst (v := 1) (q := 26) dX3_bound_25 (by decide) rfl ?_
    refine fv_icmp_ne (q := 29) 48 dX3_bound_26 (by decide) rfl (fun c26 => ?_) (fun c26 => ?_)
    · refine fv_iload (q := 50) dX3_bound_48 rfl rfl ?_
      refine fv_iload_n (q := 51) dX3_bound_50 rfl rfl ?_
      refine fv_iadd (q := 52) dX3_bound_51 rfl ?_
      refine fv_iret dX3_bound_52 rfl rfl (Nat.le_refl _) ?_
      exact fi_r hPost (by unfold bdI; rw [if_neg c3, if_neg (fun z => c26 z.1)])
    · refine fv_aload_n (q := 30) dX3_bound_29 rfl rfl ?_
      refine fl_getR (q := 33) dX3_bound_30 fX3_22 hb.len rfl rfl ?_
      refine fl_getR (q := 36) dX3_bound_33 fX3_89 hb.tab.sh.1 rfl rfl ?_
      refine fv_iload_n (q := 37) dX3_bound_36 rfl rfl ?_
      refine fl_iald (q := 38) _ dX3_bound_37 hb.tab.sh.2.2.1 (by decide) rfl (by omega) rfl ?_
      refine fv_top (hT.2.2.1 r (by omega)) ?_
      refine fv_ldc (q := 40) dX3_bound_38 kX3_92 rfl ?_
      refine fv_icmp_ne (q := 43) 48 dX3_bound_40 (by decide) rfl (fun c40 => ?_) (fun c40 => ?_)
      · refine fv_iload (q := 50) dX3_bound_48 rfl rfl ?_
        refine fv_iload_n (q := 51) dX3_bound_50 rfl rfl ?_
        refine fv_iadd (q := 52) dX3_bound_51 rfl ?_
        refine fv_iret dX3_bound_52 rfl rfl (Nat.le_refl _) ?_
        exact fi_r hPost (by unfold bdI; rw [if_neg c3, if_neg (fun z => c40 z.2)])
      · refine fv_iload (q := 45) dX3_bound_43 rfl rfl ?_
        refine fv_goto 52 dX3_bound_45 (by decide) ?_
        refine fv_iret dX3_bound_52 rfl rfl (Nat.le_refl _) ?_
        exact fi_r hPost (by unfold bdI; rw [if_neg c3, if_pos ⟨c26, c40⟩])
  · refine fv_iload_n (q := 7) dX3_bound_6 rfl rfl ?_
    refine fv_iret dX3_bound_7 rfl rfl (Nat.le_refl _) ?_
    exact fi_r hPost (by unfold bdI; rw [if_pos c3])
set_option maxHeartbeats 4000000 in
set_option maxRecDepth 100000 in
theorem c_isLess (b : Nat) (hb : LenIx b) (D : Nat → Nat → Int32) (J : Nat → Nat → Int64) (T : Nat → Int32) (n : Nat) (hT : TabOf D (b + 2) T) (v : VT T n) (r e : Nat) (hr : r < n) (he : e < n) : FI yX3_isLess cX3_isLess 3 (some .boolean) 1 [.ref b, .int (nI r), .int (nI e)] D J (bi (outB T r e)) := by
  refine FI.of (by decide) rfl (Nat.le_of_ble_eq_true rfl) (fun Post hPost => ?_)
  show FV _ _ _ _ _ _ _ _ _ _ _ _ [_, _, _] [] _
  have h40 := v.2.1
  have wA : T 4 = 1 → FV cX3_isLess 3 (some .boolean) yX3_isLess.cls yX3_isLess.name 1 0 0 Post 0 0 32 [some (.ref b), some (.int (nI r)), some (.int (nI e))] [] (lay D J) := by
    intro h1
    refine fv_iload_n (q := 33) dX3_isLess_32 rfl rfl ?_
    refine fv_iload_n (q := 34) dX3_isLess_33 rfl rfl ?_
    refine fv_icmp_ne (q := 37) 41 dX3_isLess_34 (by decide) rfl (fun c34 => ?_) (fun c34 => ?_)
    · rw [nI_eq (by omega) (by omega)] at c34
      refine fv_iconst (v := 0) (q := 42) dX3_isLess_41 (by decide) rfl ?_
      refine fv_zret dX3_isLess_42 rfl (by decide) rfl (Nat.le_refl _) ?_
      exact fi_r hPost (by unfold outB; simp [h1, c34, bi])
    · rw [nI_eq (by omega) (by omega)] at c34
      refine fv_iconst (v := 1) (q := 38) dX3_isLess_37 (by decide) rfl ?_
      refine fv_goto 42 dX3_isLess_38 (by decide) ?_
      refine fv_zret dX3_isLess_42 rfl (by decide) rfl (Nat.le_refl _) ?_
      exact fi_r hPost (by unfold outB; simp [h1, c34, bi])
  have wB : ¬ T 4 = 1 → T 4 = 2 → FV cX3_isLess 3 (some .boolean) yX3_isLess.cls yX3_isLess.name 1 0 0 Post 0 0 43 [some (.ref b), some (.int (nI r)), some (.int (nI e))] [] (lay D J) := by
    intro h1 h2
    refine fv_aload_n (q := 44) dX3_isLess_43 rfl rfl ?_
    refine fl_getR (q := 47) dX3_isLess_44 fX3_22 hb.len rfl rfl ?_
    refine fv_iload_n (q := 48) dX3_isLess_47 rfl rfl ?_
    refine fv_iload_n (q := 49) dX3_isLess_48 rfl rfl ?_
    refine fl_callVi (As := [_, _]) (q := 52) dX3_isLess_49 gX3_96 rfl hb.tab.sh.1 rfl rfl (Nat.le_of_ble_eq_true rfl) rfl (by decide) (c_arePeers (b + 2) hb.tab D J T hT r e (by omega) (by omega)) ?_
    refine fv_zret dX3_isLess_52 rfl (bi_nar _) rfl (Nat.le_refl _) ?_
    exact fi_r hPost (by unfold outB; simp [h1, h2])
  have wC : ¬ T 4 = 1 → ¬ T 4 = 2 → T 4 = 3 → FV cX3_isLess 3 (some .boolean) yX3_isLess.cls yX3_isLess.name 1 0 0 Post 0 0 53 [some (.ref b), some (.int (nI r)), some (.int (nI e))] [] (lay D J) := by
    intro h1 h2 h3
    refine fv_iload_n (q := 54) dX3_isLess_53 rfl rfl ?_
    refine fv_iload_n (q := 55) dX3_isLess_54 rfl rfl ?_
    refine fv_icmp_eq (q := 58) 74 dX3_isLess_55 (by decide) rfl (fun c55 => ?_) (fun c55 => ?_)
    · rw [nI_eq (by omega) (by omega)] at c55
      refine fv_iconst (v := 0) (q := 75) dX3_isLess_74 (by decide) rfl ?_
      refine fv_zret dX3_isLess_75 rfl (by decide) rfl (Nat.le_refl _) ?_
      exact fi_r hPost (by unfold outB; simp_all [bi])
    · rw [nI_eq (by omega) (by omega)] at c55
      refine fv_aload_n (q := 59) dX3_isLess_58 rfl rfl ?_
      refine fl_getR (q := 62) dX3_isLess_59 fX3_22 hb.len rfl rfl ?_
      refine fv_iload_n (q := 63) dX3_isLess_62 rfl rfl ?_
      refine fv_iload_n (q := 64) dX3_isLess_63 rfl rfl ?_
      refine fl_callVi (As := [_, _]) (q := 67) dX3_isLess_64 gX3_96 rfl hb.tab.sh.1 rfl rfl (Nat.le_of_ble_eq_true rfl) rfl (by decide) (c_arePeers (b + 2) hb.tab D J T hT r e (by omega) (by omega)) ?_
      refine fv_if_eq (q := 70) 74 dX3_isLess_67 (by decide) rfl (fun c67 => ?_) (fun c67 => ?_)
      · rw [bi_0] at c67
        refine fv_iconst (v := 0) (q := 75) dX3_isLess_74 (by decide) rfl ?_
        refine fv_zret dX3_isLess_75 rfl (by decide) rfl (Nat.le_refl _) ?_
        exact fi_r hPost (by unfold outB; simp_all [bi])
      · rw [bi_n'] at c67
        refine fv_iconst (v := 1) (q := 71) dX3_isLess_70 (by decide) rfl ?_
        refine fv_goto 75 dX3_isLess_71 (by decide) ?_
        refine fv_zret dX3_isLess_75 rfl (by decide) rfl (Nat.le_refl _) ?_
        exact fi_r hPost (by unfold outB; simp_all [bi])
  have wE : ¬ T 4 = 1 → ¬ T 4 = 2 → ¬ T 4 = 3 → FV cX3_isLess 3 (some .boolean) yX3_isLess.cls yX3_isLess.name 1 0 0 Post 0 0 76 [some (.ref b), some (.int (nI r)), some (.int (nI e))] [] (lay D J) := by
    intro h1 h2 h3
    refine fv_iconst (v := 0) (q := 77) dX3_isLess_76 (by decide) rfl ?_
    refine fv_zret dX3_isLess_77 rfl (by decide) rfl (Nat.le_refl _) ?_
    exact fi_r hPost (by unfold outB; simp [h1, h2, h3, bi])
  refine fv_aload_n (q := 1) dX3_isLess_0 rfl rfl ?_
  refine fl_getR (q := 4) dX3_isLess_1 fX3_22 hb.len rfl rfl ?_
  refine fl_getI (q := 7) dX3_isLess_4 fX3_93 hb.tab.sh.1 rfl rfl ?_
  refine fv_top (hT.1 4 (by decide)) ?_
  by_cases h1 : T 4 = 1
  · refine fv_top h1 ?_
    exact fv_tableIn 32 dX3_isLess_7 (by decide) (by decide) rfl (by decide) (wA h1)
  · by_cases h2 : T 4 = 2
    · refine fv_top h2 ?_
      exact fv_tableIn 43 dX3_isLess_7 (by decide) (by decide) rfl (by decide) (wB h1 h2)
    · by_cases h3 : T 4 = 3
      · refine fv_top h3 ?_
        exact fv_tableIn 53 dX3_isLess_7 (by decide) (by decide) rfl (by decide) (wC h1 h2 h3)
      · have k1 : (T 4).toInt ≠ 1 := fun z => h1 (by rw [fa_eq]; exact z)
        have k2 : (T 4).toInt ≠ 2 := fun z => h2 (by rw [fa_eq]; exact z)
        have k3 : (T 4).toInt ≠ 3 := fun z => h3 (by rw [fa_eq]; exact z)
        exact fv_tableOut 76 dX3_isLess_7 (by omega) (by decide) (wE h1 h2 h3)
set_option maxHeartbeats 4000000 in
set_option maxRecDepth 100000 in
theorem c_see (b : Nat) (hb : LenIx b) (D : Nat → Nat → Int32) (J : Nat → Nat → Int64) (T : Nat → Int32) (n : Nat) (hT : TabOf D (b + 2) T) (v : VT T n) (e : Nat) (he : e < n) (L : List Nat) (W : List Int32) (hS : LenS D b L W) (hL : L.length < 40) (hW : W.length ≤ L.length) : FD yX3_see cX3_see 2 none 0 [.ref b, .int (nI e)] D J (fun res D' J' => res = none ∧ J' = J ∧ LenS D' b (L ++ [e]) (W ++ (if wo T e = 1000000 then [] else [wo T e])) ∧ ∀ a, a ≠ b → a ≠ b + 10 → a ≠ b + 11 → D' a = D a) := by
  refine FD.of (by decide) rfl (Nat.le_of_ble_eq_true rfl) (fun Post hPost => ?_)
  show FV _ _ _ _ _ _ _ _ _ _ _ _ [_, _] [] _
  have h40 := v.2.1
  refine fv_aload_n (q := 1) dX3_see_0 rfl rfl ?_
  refine fl_getI (q := 4) dX3_see_1 fX3_34 hb.len rfl rfl ?_
  refine fv_bipush (v := 40) (q := 6) dX3_see_4 (by decide) rfl ?_
  refine fv_icmp_lt (q := 9) 10 dX3_see_6 (by decide) rfl (fun c6 => ?_) (fun c6 => absurd (by rw [hS.1]; exact nI_lt hL (by decide)) c6)
  refine fv_aload_n (q := 11) dX3_see_10 rfl rfl ?_
  refine fl_getR (q := 14) dX3_see_11 fX3_23 hb.len rfl rfl ?_
  refine fv_aload_n (q := 15) dX3_see_14 rfl rfl ?_
  refine fl_getI (q := 18) dX3_see_15 fX3_34 hb.len rfl rfl ?_
  refine fv_iload_n (q := 19) dX3_see_18 rfl rfl ?_
  refine fl_iast (q := 20) L.length dX3_see_19 hb.arr.2.2.2.2.1 (by decide) hS.1 hL rfl ?_
  refine fv_aload_n (q := 21) dX3_see_20 rfl rfl ?_
  refine fv_dup (q := 22) dX3_see_21 rfl rfl ?_
  refine fl_getI (q := 25) dX3_see_22 fX3_34 hb.len rfl rfl ?_
  refine fv_top (y := nI L.length) (by rw [up_n _ _ _ (show b ≠ b + 10 by omega)]; exact hS.1) ?_
  refine fv_iconst (v := 1) (q := 26) dX3_see_25 (by decide) rfl ?_
  refine fv_iadd (q := 27) dX3_see_26 rfl ?_
  refine fv_top (nI_1 _) ?_
  refine fl_putI (q := 30) dX3_see_27 fX3_34 hb.len rfl rfl rfl rfl ?_
  refine fv_aload_n (q := 31) dX3_see_30 rfl rfl ?_
  refine fl_getR (q := 34) dX3_see_31 fX3_22 hb.len rfl rfl ?_
  refine fl_getR (q := 37) dX3_see_34 fX3_99 hb.tab.sh.1 rfl rfl ?_
  refine fv_iload_n (q := 38) dX3_see_37 rfl rfl ?_
  refine fl_iald (q := 39) _ dX3_see_38 hb.tab.sh.2.2.2 (by decide) rfl (by omega) rfl ?_
  refine fv_top (y := wo T e) (by rw [up_n _ _ _ (by omega), up_n _ _ _ (by omega)]; exact hT.2.2.2 e (by omega)) ?_
  refine fv_ldc (q := 41) dX3_see_39 kX3_92 rfl ?_
  refine fv_icmp_eq (q := 44) 72 dX3_see_41 (by decide) rfl (fun c41 => ?_) (fun c41 => ?_)
  · refine fv_vret dX3_see_72 rfl rfl (Nat.le_refl _) ?_
    refine hPost _ _ _ ⟨rfl, rfl, ⟨?_, ?_, ?_, ?_⟩, fun a g0 g1 g2 => by rw [up_n _ _ _ g0, up_n _ _ _ g1]⟩
    · rw [up_s, pk_us, List.length_append]; rfl
    · rw [up_s, pk_un (by decide), up_n _ _ _ (by omega), if_pos c41, List.append_nil]; exact hS.2.1
    · rw [up_n _ _ _ (by omega), up_s]; exact holN_push e hS.2.2.1 rfl
    · rw [up_n _ _ _ (by omega), up_n _ _ _ (by omega), if_pos c41, List.append_nil]; exact hS.2.2.2
  · refine fv_aload_n (q := 45) dX3_see_44 rfl rfl ?_
    refine fl_getR (q := 48) dX3_see_45 fX3_27 hb.len rfl rfl ?_
    refine fv_aload_n (q := 49) dX3_see_48 rfl rfl ?_
    refine fl_getI (q := 52) dX3_see_49 fX3_38 hb.len rfl rfl ?_
    refine fv_aload_n (q := 53) dX3_see_52 rfl rfl ?_
    refine fl_getR (q := 56) dX3_see_53 fX3_22 hb.len rfl rfl ?_
    refine fl_getR (q := 59) dX3_see_56 fX3_99 hb.tab.sh.1 rfl rfl ?_
    refine fv_iload_n (q := 60) dX3_see_59 rfl rfl ?_
    refine fl_iald (q := 61) _ dX3_see_60 hb.tab.sh.2.2.2 (by decide) rfl (by omega) rfl ?_
    refine fv_top (y := wo T e) (by rw [up_n _ _ _ (by omega), up_n _ _ _ (by omega)]; exact hT.2.2.2 e (by omega)) ?_
    refine fl_iast (q := 62) W.length dX3_see_61 hb.arr.2.2.2.2.2.1 (by decide) (by rw [up_s, pk_un (by decide), up_n _ _ _ (show b ≠ b + 10 by omega)]; exact hS.2.1) (by omega) rfl ?_
    refine fv_aload_n (q := 63) dX3_see_62 rfl rfl ?_
    refine fv_dup (q := 64) dX3_see_63 rfl rfl ?_
    refine fl_getI (q := 67) dX3_see_64 fX3_38 hb.len rfl rfl ?_
    refine fv_top (y := nI W.length) (by rw [up_n _ _ _ (show b ≠ b + 11 by omega), up_s, pk_un (by decide), up_n _ _ _ (show b ≠ b + 10 by omega)]; exact hS.2.1) ?_
    refine fv_iconst (v := 1) (q := 68) dX3_see_67 (by decide) rfl ?_
    refine fv_iadd (q := 69) dX3_see_68 rfl ?_
    refine fv_top (nI_1 _) ?_
    refine fl_putI (q := 72) dX3_see_69 fX3_38 hb.len rfl rfl rfl rfl ?_
    refine fv_vret dX3_see_72 rfl rfl (Nat.le_refl _) ?_
    refine hPost _ _ _ ⟨rfl, rfl, ⟨?_, ?_, ?_, ?_⟩, fun a g0 g1 g2 => by rw [up_n _ _ _ g0, up_n _ _ _ g2, up_n _ _ _ g0, up_n _ _ _ g1]⟩
    · rw [up_s, pk_un (by decide), up_n _ _ _ (by omega), up_s, pk_us, List.length_append]; rfl
    · rw [up_s, pk_us, if_neg c41, List.length_append]; rfl
    · rw [up_n _ _ _ (by omega), up_n _ _ _ (by omega), up_n _ _ _ (by omega), up_s]; exact holN_push e hS.2.2.1 rfl
    · rw [up_n _ _ _ (by omega), up_s, up_n _ _ _ (by omega), up_n _ _ _ (by omega), if_neg c41]; exact hold_push _ hS.2.2.2 rfl
set_option maxHeartbeats 4000000 in
set_option maxRecDepth 100000 in
theorem c_look (b : Nat) (hb : LenIx b) (D : Nat → Nat → Int32) (J : Nat → Nat → Int64) (T : Nat → Int32) (n : Nat) (hT : TabOf D (b + 2) T) (v : VT T n) (hO : OrdOf D b T n) (r : Nat) (hr : r < n) : FD yX3_look cX3_look 7 none 3 [.ref b, .int (nI r)] D J (fun res D' J' => res = none ∧ J' = J ∧ LenS D' b (frL T n r n) (wl T (frL T n r n)) ∧ ∀ a, a ≠ b → a ≠ b + 10 → a ≠ b + 11 → D' a = D a) := by
  refine FD.of (by decide) rfl (Nat.le_of_ble_eq_true rfl) (fun Post hPost => ?_)
  show FV _ _ _ _ _ _ _ _ _ _ _ _ [_, _, _, _, _, _, _] [] _
  have h40 := v.2.1
  have hple := part_le (T := T) (n := n) (r := r)
  obtain ⟨lo, hlo⟩ : ∃ x, x = bdI T n r (T 2) (-2000000) := ⟨_, rfl⟩
  obtain ⟨hi, hhi⟩ : ∃ x, x = bdI T n r (T 3) 2000000 := ⟨_, rfl⟩
  have loop : ∀ i, i ≤ pf T n r + pm T n r → pf T n r ≤ i → ∀ (l5 l6 : Option Value) (E : Nat → Nat → Int32), LenS E b (frL T n r i) (wl T (frL T n r i)) → (∀ a, a ≠ b → a ≠ b + 10 → a ≠ b + 11 → E a = D a) → FV cX3_look 7 none yX3_look.cls yX3_look.name 3 0 0 Post 0 0 73 [some (.ref b), some (.int (nI r)), some (.int lo), some (.int hi), some (.int (nI i)), l5, l6] [] (lay E J) := by
    refine up_ind (fun i hi9 ih => ?_)
    intro hpi l5 l6 E hS hf
    subst hlo hhi
    refine fv_iload (q := 75) dX3_look_73 rfl rfl ?_
    refine fv_aload_n (q := 76) dX3_look_75 rfl rfl ?_
    refine fl_getR (q := 79) dX3_look_76 fX3_22 hb.len rfl rfl ?_
    refine fl_getI (q := 82) dX3_look_79 fX3_65 hb.tab.sh.1 rfl rfl ?_
    refine fv_top (y := nI n) (by rw [hf _ (by omega) (by omega) (by omega)]; exact hT.n v) ?_
    refine fv_icmp_ge (q := 85) 172 dX3_look_82 (by decide) rfl (fun c82 => ?_) (fun c82 => ?_)
    · rw [nI_leI (by omega) (by omega)] at c82
      refine fv_vret dX3_look_172 rfl rfl (Nat.le_refl _) ?_
      have e9 : i = n := by have := part_le (T := T) (n := n) (r := r); omega
      subst e9
      exact hPost _ _ _ ⟨rfl, rfl, hS, hf⟩
    · rw [nI_leI (by omega) (by omega)] at c82
      have hTE : TabOf E (b + 2) T := hT.of (hf _ (by omega) (by omega) (by omega)) (hf _ (by omega) (by omega) (by omega)) (hf _ (by omega) (by omega) (by omega)) (hf _ (by omega) (by omega) (by omega))
      have hOE : OrdOf E b T n := hO.of (hf _ (by omega) (by omega) (by omega)) (hf _ (by omega) (by omega) (by omega)) (hf _ (by omega) (by omega) (by omega)) (hf _ (by omega) (by omega) (by omega))
      have hl := lin_lt (T := T) (n := n) (k := i) (by omega)
      refine fv_aload_n (q := 86) dX3_look_85 rfl rfl ?_
      refine fl_getR (q := 89) dX3_look_86 fX3_12 hb.len rfl rfl ?_
      refine fv_iload (q := 91) dX3_look_89 rfl rfl ?_
      refine fl_callVi (As := [_]) (q := 94) dX3_look_91 gX3_68 rfl hb.ord rfl rfl (Nat.le_of_ble_eq_true rfl) rfl (by decide) (c_atI b hb E J n i (hTE.n v) h40 (by omega)) ?_
      refine fv_top (hOE.1 i (by omega)) ?_
      refine fv_istore (q := 96) (l' := [_, _, _, _, _, _, _]) dX3_look_94 (by decide) rfl rfl rfl ?_
      refine fv_iload (q := 98) dX3_look_96 rfl rfl ?_
      refine fv_iconst (v := (-1)) (q := 99) dX3_look_98 (by decide) rfl ?_
      refine fv_icmp_eq (q := 102) 172 dX3_look_99 (by decide) rfl (fun c99 => absurd c99 (nI_m1 (by omega))) (fun c99 => ?_)
      refine fv_aload_n (q := 103) dX3_look_102 rfl rfl ?_
      refine fl_getR (q := 106) dX3_look_103 fX3_22 hb.len rfl rfl ?_
      refine fl_getR (q := 109) dX3_look_106 fX3_72 hb.tab.sh.1 rfl rfl ?_
      refine fv_iload (q := 111) dX3_look_109 rfl rfl ?_
      refine fl_iald (q := 112) _ dX3_look_111 hb.tab.sh.2.1 (by decide) rfl (by omega) rfl ?_
      refine fv_top (hTE.2.1 _ (by omega)) ?_
      refine fv_aload_n (q := 113) dX3_look_112 rfl rfl ?_
      refine fl_getR (q := 116) dX3_look_113 fX3_22 hb.len rfl rfl ?_
      refine fl_getR (q := 119) dX3_look_116 fX3_72 hb.tab.sh.1 rfl rfl ?_
      refine fv_iload_n (q := 120) dX3_look_119 rfl rfl ?_
      refine fl_iald (q := 121) _ dX3_look_120 hb.tab.sh.2.1 (by decide) rfl (by omega) rfl ?_
      refine fv_top (hTE.2.1 _ (by omega)) ?_
      refine fv_icmp_eq (q := 124) 127 dX3_look_121 (by decide) rfl (fun c121 => ?_) (fun c121 => ?_)
      · have hip := (in_part (T := T) hr (k := i) (by omega)).mp c121
        refine fv_aload_n (q := 128) dX3_look_127 rfl rfl ?_
        refine fl_getR (q := 131) dX3_look_128 fX3_12 hb.len rfl rfl ?_
        refine fv_iload (q := 133) dX3_look_131 rfl rfl ?_
        refine fl_callVi (As := [_]) (q := 136) dX3_look_133 gX3_75 rfl hb.ord rfl rfl (Nat.le_of_ble_eq_true rfl) rfl (by decide) (c_measure b hb E J T n hTE v hOE _ hl) ?_
        have hm : (msI T n (lin T n i)).toInt = msz T n i := by rw [msI_z v hl, pos_lin (by omega)]
        refine fv_istore (q := 138) (l' := [_, _, _, _, _, _, _]) dX3_look_136 (by decide) rfl rfl rfl ?_
        refine fv_iload (q := 140) dX3_look_138 rfl rfl ?_
        refine fv_iload_n (q := 141) dX3_look_140 rfl rfl ?_
        refine fv_icmp_lt (q := 144) 166 dX3_look_141 (by decide) rfl (fun c141 => ?_) (fun c141 => ?_)
        · refine fv_iinc (v := _ + 1) (q := 169) (l' := [_, _, _, _, _, _, _]) dX3_look_166 rfl rfl (by decide) rfl rfl rfl ?_
          refine fv_goto 73 dX3_look_169 (by decide) ?_
          have hin : inF T n r i = false := by
            unfold inF
            rw [fa_lt, lo_z v hr, hm] at c141
            have : ¬ loz T n r ≤ msz T n i := by omega
            simp [this]
          have h9 := frL_s T n r i
          rw [hin] at h9
          simp only [Bool.false_eq_true, if_false, List.append_nil] at h9
          rw [nI_1]
          exact ih (by omega) (by omega) _ _ E (by rw [h9]; exact hS) hf
        · refine fv_iload (q := 146) dX3_look_144 rfl rfl ?_
          refine fv_iload_n (q := 147) dX3_look_146 rfl rfl ?_
          refine fv_icmp_gt (q := 150) 166 dX3_look_147 (by decide) rfl (fun c147 => ?_) (fun c147 => ?_)
          · refine fv_iinc (v := _ + 1) (q := 169) (l' := [_, _, _, _, _, _, _]) dX3_look_166 rfl rfl (by decide) rfl rfl rfl ?_
            refine fv_goto 73 dX3_look_169 (by decide) ?_
            have hin : inF T n r i = false := by
              unfold inF
              rw [fa_lt, hi_z v hr, hm] at c147
              have : ¬ msz T n i ≤ hiz T n r := by omega
              simp [this]
            have h9 := frL_s T n r i
            rw [hin] at h9
            simp only [Bool.false_eq_true, if_false, List.append_nil] at h9
            rw [nI_1]
            exact ih (by omega) (by omega) _ _ E (by rw [h9]; exact hS) hf
          · refine fv_aload_n (q := 151) dX3_look_150 rfl rfl ?_
            refine fv_iload_n (q := 152) dX3_look_151 rfl rfl ?_
            refine fv_iload (q := 154) dX3_look_152 rfl rfl ?_
            refine fl_callVi (As := [_, _]) (q := 157) dX3_look_154 gX3_78 rfl hb.len rfl rfl (Nat.le_of_ble_eq_true rfl) rfl (by decide) (c_isLess b hb E J T n hTE v r (lin T n i) hr hl) ?_
            refine fv_if_ne (q := 160) 166 dX3_look_157 (by decide) rfl (fun c157 => ?_) (fun c157 => ?_)
            · refine fv_iinc (v := _ + 1) (q := 169) (l' := [_, _, _, _, _, _, _]) dX3_look_166 rfl rfl (by decide) rfl rfl rfl ?_
              refine fv_goto 73 dX3_look_169 (by decide) ?_
              have hin : inF T n r i = false := by
                unfold inF
                rw [bi_n'] at c157
                simp [c157]
              have h9 := frL_s T n r i
              rw [hin] at h9
              simp only [Bool.false_eq_true, if_false, List.append_nil] at h9
              rw [nI_1]
              exact ih (by omega) (by omega) _ _ E (by rw [h9]; exact hS) hf
            · refine fv_aload_n (q := 161) dX3_look_160 rfl rfl ?_
              refine fv_iload (q := 163) dX3_look_161 rfl rfl ?_
              refine fl_callV (As := [_]) (q := 166) dX3_look_163 gX3_82 rfl hb.len rfl rfl (Nat.le_of_ble_eq_true rfl) rfl (by decide) (c_see b hb E J T n hTE v (lin T n i) hl _ _ hS (by have := frL_len T n r i; omega) (wl_len _ _)) (fun res D1 J1 hp => ?_)
              obtain ⟨rfl, rfl, hS2, hf2⟩ := hp
              refine fv_iinc (v := _ + 1) (q := 169) (l' := [_, _, _, _, _, _, _]) dX3_look_166 rfl rfl (by decide) rfl rfl rfl ?_
              refine fv_goto 73 dX3_look_169 (by decide) ?_
              have hin : inF T n r i = true := by
                unfold inF
                rw [fa_lt, lo_z v hr, hm] at c141
                rw [fa_lt, hi_z v hr, hm] at c147
                rw [bi_0] at c157
                have k1 : loz T n r ≤ msz T n i := by omega
                have k2 : msz T n i ≤ hiz T n r := by omega
                simp [c121, k1, k2, c157]
              have h9 := frL_s T n r i
              rw [hin] at h9
              simp only [if_true] at h9
              rw [nI_1]
              refine ih (by omega) (by omega) _ _ D1 ?_ (fun a g0 g1 g2 => by rw [hf2 a g0 g1 g2]; exact hf a g0 g1 g2)
              rw [h9, wl_push]
              exact hS2
      · have hip := mt (in_part (T := T) hr (k := i) (by omega)).mpr c121
        refine fv_goto 172 dX3_look_124 (by decide) ?_
        refine fv_vret dX3_look_172 rfl rfl (Nat.le_refl _) ?_
        have e9 : i = pf T n r + pm T n r := by omega
        subst e9
        rw [frL_end hr] at hS
        exact hPost _ _ _ ⟨rfl, rfl, hS, hf⟩
  refine fv_aload_n (q := 1) dX3_look_0 rfl rfl ?_
  refine fv_iconst (v := 0) (q := 2) dX3_look_1 (by decide) rfl ?_
  refine fl_putI (q := 5) dX3_look_2 fX3_34 hb.len rfl rfl rfl rfl ?_
  refine fv_aload_n (q := 6) dX3_look_5 rfl rfl ?_
  refine fv_iconst (v := 0) (q := 7) dX3_look_6 (by decide) rfl ?_
  refine fl_putI (q := 10) dX3_look_7 fX3_38 hb.len rfl rfl rfl rfl ?_
  refine fv_aload_n (q := 11) dX3_look_10 rfl rfl ?_
  refine fl_getR (q := 14) dX3_look_11 fX3_22 hb.len rfl rfl ?_
  refine fv_iload_n (q := 15) dX3_look_14 rfl rfl ?_
  refine fl_callVi (As := [_]) (q := 18) dX3_look_15 gX3_41 rfl hb.tab.sh.1 rfl rfl (Nat.le_of_ble_eq_true rfl) rfl (by decide) (c_has (b + 2) hb.tab (nI r) _ J) ?_
  refine fv_if_ne (q := 21) 22 dX3_look_18 (by decide) rfl (fun c18 => ?_) (fun c18 => absurd c18 (by rw [bi_n', up_n _ _ _ (by omega), up_n _ _ _ (by omega), hT.n v]; simp only [Bool.and_eq_true, decide_eq_true_eq]; exact ⟨nI_pos (by omega), nI_lt hr (by omega)⟩))
  obtain ⟨E, hE⟩ : ∃ E, E = up (up D b 5 0) b 6 0 := ⟨_, rfl⟩
  rw [← hE]
  have hf : ∀ a, a ≠ b → E a = D a := fun a ha => by rw [hE, up_n _ _ _ ha, up_n _ _ _ ha]
  have hTE : TabOf E (b + 2) T := hT.of (hf _ (by omega)) (hf _ (by omega)) (hf _ (by omega)) (hf _ (by omega))
  have hOE : OrdOf E b T n := hO.of (hf _ (by omega)) (hf _ (by omega)) (hf _ (by omega)) (hf _ (by omega))
  have hp1 := pos_part (T := T) hr
  have hpl := pos_lt (T := T) hr
  refine fv_aload_n (q := 23) dX3_look_22 rfl rfl ?_
  refine fv_iload_n (q := 24) dX3_look_23 rfl rfl ?_
  refine fv_aload_n (q := 25) dX3_look_24 rfl rfl ?_
  refine fl_getR (q := 28) dX3_look_25 fX3_22 hb.len rfl rfl ?_
  refine fl_getI (q := 31) dX3_look_28 fX3_47 hb.tab.sh.1 rfl rfl ?_
  refine fv_top (hTE.1 2 (by decide)) ?_
  refine fv_ldc (q := 33) dX3_look_31 kX3_50 rfl ?_
  refine fl_callVi (As := [_, _, _]) (q := 36) dX3_look_33 gX3_51 rfl hb.len rfl rfl (Nat.le_of_ble_eq_true rfl) rfl (by decide) (c_bound b hb E J T n hTE v hOE r hr (T 2) (-2000000)) ?_
  refine fv_top hlo.symm ?_
  refine fv_istore_n (i := 2) (q := 37) (l' := [_, _, _, _, _, _, _]) dX3_look_36 rfl (by decide) rfl rfl rfl ?_
  refine fv_aload_n (q := 38) dX3_look_37 rfl rfl ?_
  refine fv_iload_n (q := 39) dX3_look_38 rfl rfl ?_
  refine fv_aload_n (q := 40) dX3_look_39 rfl rfl ?_
  refine fl_getR (q := 43) dX3_look_40 fX3_22 hb.len rfl rfl ?_
  refine fl_getI (q := 46) dX3_look_43 fX3_55 hb.tab.sh.1 rfl rfl ?_
  refine fv_top (hTE.1 3 (by decide)) ?_
  refine fv_ldc (q := 48) dX3_look_46 kX3_58 rfl ?_
  refine fl_callVi (As := [_, _, _]) (q := 51) dX3_look_48 gX3_51 rfl hb.len rfl rfl (Nat.le_of_ble_eq_true rfl) rfl (by decide) (c_bound b hb E J T n hTE v hOE r hr (T 3) 2000000) ?_
  refine fv_top hhi.symm ?_
  refine fv_istore_n (i := 3) (q := 52) (l' := [_, _, _, _, _, _, _]) dX3_look_51 rfl (by decide) rfl rfl rfl ?_
  refine fv_aload_n (q := 53) dX3_look_52 rfl rfl ?_
  refine fl_getR (q := 56) dX3_look_53 fX3_12 hb.len rfl rfl ?_
  refine fl_getR (q := 59) dX3_look_56 fX3_59 hb.ord rfl rfl ?_
  refine fv_iload_n (q := 60) dX3_look_59 rfl rfl ?_
  refine fl_iald (q := 61) _ dX3_look_60 hb.arr.2.1 (by decide) rfl (by omega) rfl ?_
  refine fv_top (hOE.2.1 r hr) ?_
  refine fv_aload_n (q := 62) dX3_look_61 rfl rfl ?_
  refine fl_getR (q := 65) dX3_look_62 fX3_12 hb.len rfl rfl ?_
  refine fl_getR (q := 68) dX3_look_65 fX3_62 hb.ord rfl rfl ?_
  refine fv_iload_n (q := 69) dX3_look_68 rfl rfl ?_
  refine fl_iald (q := 70) _ dX3_look_69 hb.arr.2.2.1 (by decide) rfl (by omega) rfl ?_
  refine fv_top (hOE.2.2.1 r hr) ?_
  refine fv_isub (q := 71) dX3_look_70 rfl ?_
  refine fv_top (y := nI (pf T n r)) (by rw [pk_sub (by omega)]; congr 1; omega) ?_
  refine fv_istore (q := 73) (l' := [_, _, _, _, _, _, _]) dX3_look_71 (by decide) rfl rfl rfl ?_
  refine loop (pf T n r) (by omega) (Nat.le_refl _) _ _ E ?_ (fun a g0 _ _ => hf a g0)
  rw [frL_lo hr _ (Nat.le_refl _) (by omega), hE]
  exact ⟨by rw [up_s, pk_un (by decide), up_s, pk_us]; rfl, by rw [up_s, pk_us]; rfl, holN_nil _, hold_nil _⟩
set_option maxHeartbeats 4000000 in
set_option maxRecDepth 100000 in
theorem c_lookO (b : Nat) (hb : LenIx b) (D : Nat → Nat → Int32) (J : Nat → Nat → Int64) (n : Nat) (hn : D (b + 2) 3 = nI n) (k : Int32) (hk : k < 0 ∨ nI n ≤ k) : FD yX3_look cX3_look 7 none 1 [.ref b, .int k] D J (fun res D' J' => res = none ∧ J' = J ∧ LenS D' b [] [] ∧ ∀ a, a ≠ b → D' a = D a) := by
  refine FD.of (by decide) rfl (Nat.le_of_ble_eq_true rfl) (fun Post hPost => ?_)
  show FV _ _ _ _ _ _ _ _ _ _ _ _ [_, _, _, _, _, _, _] [] _
  refine fv_aload_n (q := 1) dX3_look_0 rfl rfl ?_
  refine fv_iconst (v := 0) (q := 2) dX3_look_1 (by decide) rfl ?_
  refine fl_putI (q := 5) dX3_look_2 fX3_34 hb.len rfl rfl rfl rfl ?_
  refine fv_aload_n (q := 6) dX3_look_5 rfl rfl ?_
  refine fv_iconst (v := 0) (q := 7) dX3_look_6 (by decide) rfl ?_
  refine fl_putI (q := 10) dX3_look_7 fX3_38 hb.len rfl rfl rfl rfl ?_
  refine fv_aload_n (q := 11) dX3_look_10 rfl rfl ?_
  refine fl_getR (q := 14) dX3_look_11 fX3_22 hb.len rfl rfl ?_
  refine fv_iload_n (q := 15) dX3_look_14 rfl rfl ?_
  refine fl_callVi (As := [_]) (q := 18) dX3_look_15 gX3_41 rfl hb.tab.sh.1 rfl rfl (Nat.le_of_ble_eq_true rfl) rfl (by decide) (c_has (b + 2) hb.tab k _ J) ?_
  refine fv_if_ne (q := 21) 22 dX3_look_18 (by decide) rfl (fun c18 => absurd (by rw [bi_0, up_n _ _ _ (by omega), up_n _ _ _ (by omega), hn]; rcases hk with h | h; simp [h]; (simp; exact fun _ => h)) c18) (fun c18 => ?_)
  refine fv_vret dX3_look_21 rfl rfl (Nat.le_refl _) ?_
  exact hPost _ _ _ ⟨rfl, rfl, ⟨by rw [up_s, pk_un (by decide), up_s, pk_us]; rfl, by rw [up_s, pk_us]; rfl, holN_nil _, hold_nil _⟩, fun a ha => by rw [up_n _ _ _ ha, up_n _ _ _ ha]⟩
