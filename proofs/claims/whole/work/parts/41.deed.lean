theorem XR.mk {D D' : Nat → Nat → Int32} {T T' : Nat → Int32} {n n' : Nat} {P P' : List (Nat → Int32)} {I : Nat → Option ((Nat → Int32) × Int32)} {B : List (Nat × Int32 × Int32)} {s : Int32} (h : XR D (T, n, P, I, B, s)) (h1 : TabOf D' 3 T') (h2 : OrdOf D' 1 T' n') (h3 : HisOf D' P') (h0 : ∀ a, a = 0 ∨ (109 ≤ a ∧ a < 124) → D' a = D a) : XR D' (T', n', P', I, B, s) :=
  ⟨h1, h2, h3, h.2.2.2.1.of (fun a g1 g2 => h0 a (by omega)), h.2.2.2.2.1.of (h0 _ (by omega)) (h0 _ (by omega)) (h0 _ (by omega)) (h0 _ (by omega)), by rw [h0 0 (by omega)]; exact h.2.2.2.2.2⟩
set_option maxHeartbeats 4000000 in
set_option maxRecDepth 100000 in
theorem c_put (D : Nat → Nat → Int32) (J : Nat → Nat → Int64) (σ : Sg) (hX : XR D σ) (ok : SgOk σ) (p k w : Int32) : FD yX6_put cX6_put 4 (some .int) 4 [.ref 0, .int p, .int k, .int w] D J (fun res D' J' => res = some (.int (f_put σ p k w).1) ∧ XR D' (f_put σ p k w).2 ∧ KX D D' J J') := by
  refine FD.of (by decide) rfl (Nat.le_of_ble_eq_true rfl) (fun Post hPost => ?_)
  show FV _ _ _ _ _ _ _ _ _ _ _ _ [_, _, _, _] [] _
  obtain ⟨T, n, P, I, B, s⟩ := σ
  have hT : TabOf D 3 T := hX.1
  have hO : OrdOf D 1 T n := hX.2.1
  have hH : HisOf D P := hX.2.2.1
  have hI : ImgOf D I := hX.2.2.2.1
  have hB : BookOf D B := hX.2.2.2.2.1
  have hs : D 0 9 = s := hX.2.2.2.2.2
  have v : VT T n := ok.1
  have h40 := v.2.1
  have hn : D 3 3 = nI n := hT.n v
  have hb := len1
  have hz : D 3 8 = 0 ∨ D 3 8 = 1 := by rw [hT.1 5 (by decide)]; exact v.2.2.1
  have fb : (wth p 0 5 && isKeyB k && isWorB w) = false → f_put (T, n, P, I, B, s) p k w = (-1000000002, (T, n, P, I, B, s)) := fun h => by unfold f_put; rw [if_pos h]
  refine fv_iload_n (q := 1) dX6_put_0 rfl rfl ?_
  refine fl_callSi (As := [_]) (q := 4) dX6_put_1 gX6_137 rfl rfl (Nat.le_of_ble_eq_true rfl) rfl (by decide) (c_isPart D J p) ?_
  refine fv_if_eq (q := 7) 21 dX6_put_4 (by decide) rfl (fun c4 => ?_) (fun c4 => ?_)
  · rw [bi_0] at c4
    refine fv_ldc (q := 23) dX6_put_21 kX6_99 rfl ?_
    refine fv_iret dX6_put_23 rfl rfl (Nat.le_refl _) ?_
    exact hPost _ _ _ ⟨by rw [fb (by rw [c4]; rfl)], by rw [fb (by rw [c4]; rfl)]; exact hX, KX.rf⟩
  · rw [bi_n'] at c4
    refine fv_iload_n (q := 8) dX6_put_7 rfl rfl ?_
    refine fl_callSi (As := [_]) (q := 11) dX6_put_8 gX6_140 rfl rfl (Nat.le_of_ble_eq_true rfl) rfl (by decide) (c_isKey D J k) ?_
    refine fv_if_eq (q := 14) 21 dX6_put_11 (by decide) rfl (fun c11 => ?_) (fun c11 => ?_)
    · rw [bi_0] at c11
      refine fv_ldc (q := 23) dX6_put_21 kX6_99 rfl ?_
      refine fv_iret dX6_put_23 rfl rfl (Nat.le_refl _) ?_
      exact hPost _ _ _ ⟨by rw [fb (by rw [c4, c11]; rfl)], by rw [fb (by rw [c4, c11]; rfl)]; exact hX, KX.rf⟩
    · rw [bi_n'] at c11
      refine fv_iload_n (q := 15) dX6_put_14 rfl rfl ?_
      refine fl_callSi (As := [_]) (q := 18) dX6_put_15 gX6_143 rfl rfl (Nat.le_of_ble_eq_true rfl) rfl (by decide) (c_isWorth D J w) ?_
      refine fv_if_ne (q := 21) 24 dX6_put_18 (by decide) rfl (fun c18 => ?_) (fun c18 => ?_)
      · rw [bi_n'] at c18
        refine fv_aload_n (q := 25) dX6_put_24 rfl rfl ?_
        refine fl_getR (q := 28) dX6_put_25 fX6_27 sh0 rfl rfl ?_
        refine fl_getI (q := 31) dX6_put_28 fX6_62 hb.tab.sh.1 rfl rfl ?_
        refine fv_top hn ?_
        refine fv_bipush (v := 40) (q := 33) dX6_put_31 (by decide) rfl ?_
        refine fv_icmp_lt (q := 36) 39 dX6_put_33 (by decide) rfl (fun c33 => ?_) (fun c33 => ?_)
        · have h4 : n < 40 := (nI_ltI (by omega) (by decide)).mp (show nI n < nI 40 from c33)
          refine fv_aload_n (q := 40) dX6_put_39 rfl rfl ?_
          refine fl_getR (q := 43) dX6_put_40 fX6_40 sh0 rfl rfl ?_
          refine fv_aload_n (q := 44) dX6_put_43 rfl rfl ?_
          refine fl_getR (q := 47) dX6_put_44 fX6_27 sh0 rfl rfl ?_
          refine fl_callV (As := [_]) (q := 50) dX6_put_47 gX6_147 rfl sh27 rfl rfl (Nat.le_of_ble_eq_true rfl) rfl (by decide) (c_remember D J P hH T hT hz) (fun res D1 J1 hp => ?_)
          obtain ⟨rfl, rfl, hH1, hf1⟩ := hp
          have hT1 : TabOf D1 3 T := hT.of (hf1 _ (by decide)) (hf1 _ (by decide)) (hf1 _ (by decide)) (hf1 _ (by decide))
          refine fv_aload_n (q := 51) dX6_put_50 rfl rfl ?_
          refine fl_getR (q := 54) dX6_put_51 fX6_27 sh0 rfl rfl ?_
          refine fv_iload_n (q := 55) dX6_put_54 rfl rfl ?_
          refine fv_iload_n (q := 56) dX6_put_55 rfl rfl ?_
          refine fv_iload_n (q := 57) dX6_put_56 rfl rfl ?_
          refine fl_callV (As := [_, _, _]) (q := 60) dX6_put_57 gX6_151 rfl hb.tab.sh.1 rfl rfl (Nat.le_of_ble_eq_true rfl) rfl (by decide) (c_add 3 tab3 n p k w D1 _ (hT1.n v) h4) (fun res2 D2 J2 hp => ?_)
          obtain ⟨rfl, rfl, hD2⟩ := hp
          have hT2 : TabOf D2 3 (addT T n p k w) := by rw [hD2]; exact add_tab hT1 h4
          have v2 : VT (addT T n p k w) (n + 1) := VT_add v h4 (by rw [wth_i] at c4; exact c4) (isKeyB_i.mp c11) (isWorB_i.mp c18)
          have hf2 : ∀ a, a < 3 ∨ 7 ≤ a → D2 a = D1 a := fun a ha => by rw [hD2, up_n _ _ _ (by omega), up_n _ _ _ (by omega), up_n _ _ _ (by omega), up_n _ _ _ (by omega)]
          refine fv_aload_n (q := 61) dX6_put_60 rfl rfl ?_
          refine fl_getR (q := 64) dX6_put_61 fX6_20 sh0 rfl rfl ?_
          refine fl_callV (As := []) (q := 67) dX6_put_64 gX6_155 rfl hb.ord rfl rfl (Nat.le_of_ble_eq_true rfl) rfl (by decide) (c_settle 1 len1 D2 _ (addT T n p k w) (n + 1) hT2 v2) (fun res3 D3 J3 hp => ?_)
          obtain ⟨rfl, rfl, hO3, hf3⟩ := hp
          have hT3 : TabOf D3 3 (addT T n p k w) := hT2.of (hf3 _ (by decide) (by decide) (by decide) (by decide)) (hf3 _ (by decide) (by decide) (by decide) (by decide)) (hf3 _ (by decide) (by decide) (by decide) (by decide)) (hf3 _ (by decide) (by decide) (by decide) (by decide))
          refine fv_aload_n (q := 68) dX6_put_67 rfl rfl ?_
          refine fl_getR (q := 71) dX6_put_68 fX6_27 sh0 rfl rfl ?_
          refine fl_getI (q := 74) dX6_put_71 fX6_62 hb.tab.sh.1 rfl rfl ?_
          refine fv_top (hT3.n v2) ?_
          refine fv_iconst (v := 1) (q := 75) dX6_put_74 (by decide) rfl ?_
          refine fv_isub (q := 76) dX6_put_75 rfl ?_
          refine fv_top (nI_pred n) ?_
          refine fv_iret dX6_put_76 rfl rfl (Nat.le_refl _) ?_
          have e9 : f_put (T, n, P, I, B, s) p k w = (nI n, (addT T n p k w, n + 1, tk T P, I, B, s)) := by unfold f_put; rw [if_neg (by rw [c4, c11, c18]; decide), if_neg (show ¬ 40 ≤ n by omega)]
          refine hPost _ _ _ ⟨by rw [e9], ?_, fun a ha => ?_, fun _ _ => rfl⟩
          · rw [e9]
            exact hX.mk hT3 hO3 (hH1.of (fun a g1 g2 => by rw [hf3 a (by omega) (by omega) (by omega) (by omega), hf2 a (by omega)])) (fun a ha => by rw [hf3 a (by omega) (by omega) (by omega) (by omega), hf2 a (by omega), hf1 a (by omega)])
          · rw [hf3 a (by omega) (by omega) (by omega) (by omega), hf2 a (by omega), hf1 a (by omega)]
        · have h4 : ¬ n < 40 := fun z => c33 (show nI n < nI 40 from nI_lt z (by decide))
          refine fv_ldc (q := 38) dX6_put_36 kX6_146 rfl ?_
          refine fv_iret dX6_put_38 rfl rfl (Nat.le_refl _) ?_
          have e9 : f_put (T, n, P, I, B, s) p k w = (-1000000004, (T, n, P, I, B, s)) := by unfold f_put; rw [if_neg (by rw [c4, c11, c18]; decide), if_pos (show 40 ≤ n by omega)]
          exact hPost _ _ _ ⟨by rw [e9], by rw [e9]; exact hX, KX.rf⟩
      · rw [bi_0] at c18
        refine fv_ldc (q := 23) dX6_put_21 kX6_99 rfl ?_
        refine fv_iret dX6_put_23 rfl rfl (Nat.le_refl _) ?_
        exact hPost _ _ _ ⟨by rw [fb (by rw [c4, c11, c18]; rfl)], by rw [fb (by rw [c4, c11, c18]; rfl)]; exact hX, KX.rf⟩
set_option maxHeartbeats 4000000 in
set_option maxRecDepth 100000 in
theorem c_take (D : Nat → Nat → Int32) (J : Nat → Nat → Int64) (σ : Sg) (hX : XR D σ) (ok : SgOk σ) (r : Int32) : FD yX6_take cX6_take 2 (some .int) 4 [.ref 0, .int r] D J (fun res D' J' => res = some (.int (f_take σ r).1) ∧ XR D' (f_take σ r).2 ∧ KX D D' J J') := by
  refine FD.of (by decide) rfl (Nat.le_of_ble_eq_true rfl) (fun Post hPost => ?_)
  show FV _ _ _ _ _ _ _ _ _ _ _ _ [_, _] [] _
  obtain ⟨T, n, P, I, B, s⟩ := σ
  have hT : TabOf D 3 T := hX.1
  have hO : OrdOf D 1 T n := hX.2.1
  have hH : HisOf D P := hX.2.2.1
  have hI : ImgOf D I := hX.2.2.2.1
  have hB : BookOf D B := hX.2.2.2.2.1
  have hs : D 0 9 = s := hX.2.2.2.2.2
  have v : VT T n := ok.1
  have h40 := v.2.1
  have hn : D 3 3 = nI n := hT.n v
  have hb := len1
  have hz : D 3 8 = 0 ∨ D 3 8 = 1 := by rw [hT.1 5 (by decide)]; exact v.2.2.1
  refine fv_aload_n (q := 1) dX6_take_0 rfl rfl ?_
  refine fl_getR (q := 4) dX6_take_1 fX6_27 sh0 rfl rfl ?_
  refine fv_iload_n (q := 5) dX6_take_4 rfl rfl ?_
  refine fl_callVi (As := [_]) (q := 8) dX6_take_5 gX6_100 rfl hb.tab.sh.1 rfl rfl (Nat.le_of_ble_eq_true rfl) rfl (by decide) (c_has 3 tab3 r D J) ?_
  refine fv_top (y := bi (okr n r)) (by rw [hn]; rfl) ?_
  refine fv_if_ne (q := 11) 14 dX6_take_8 (by decide) rfl (fun c8 => ?_) (fun c8 => ?_)
  · rw [bi_n'] at c8
    obtain ⟨j, hj, hrj, hjc⟩ := okr_t c8 h40
    refine fv_aload_n (q := 15) dX6_take_14 rfl rfl ?_
    refine fl_getR (q := 18) dX6_take_15 fX6_40 sh0 rfl rfl ?_
    refine fv_aload_n (q := 19) dX6_take_18 rfl rfl ?_
    refine fl_getR (q := 22) dX6_take_19 fX6_27 sh0 rfl rfl ?_
    subst hrj
    refine fl_callV (As := [_]) (q := 25) dX6_take_22 gX6_147 rfl sh27 rfl rfl (Nat.le_of_ble_eq_true rfl) rfl (by decide) (c_remember D J P hH T hT hz) (fun res D1 J1 hp => ?_)
    obtain ⟨rfl, rfl, hH1, hf1⟩ := hp
    have hT1 : TabOf D1 3 T := hT.of (hf1 _ (by decide)) (hf1 _ (by decide)) (hf1 _ (by decide)) (hf1 _ (by decide))
    refine fv_aload_n (q := 26) dX6_take_25 rfl rfl ?_
    refine fl_getR (q := 29) dX6_take_26 fX6_27 sh0 rfl rfl ?_
    refine fv_iload_n (q := 30) dX6_take_29 rfl rfl ?_
    refine fl_callV (As := [_]) (q := 33) dX6_take_30 gX6_158 rfl hb.tab.sh.1 rfl rfl (Nat.le_of_ble_eq_true rfl) rfl (by decide) (c_drop 3 tab3 n j D1 _ (hT1.n v) h40 hj) (fun res2 D2 J2 hp => ?_)
    obtain ⟨rfl, rfl, hC2, hf2⟩ := hp
    have hT2 : TabOf D2 3 (dropT T n j) := hC2 T hT1
    have v2 := VT_drop v hj
    refine fv_aload_n (q := 34) dX6_take_33 rfl rfl ?_
    refine fl_getR (q := 37) dX6_take_34 fX6_20 sh0 rfl rfl ?_
    refine fl_callV (As := []) (q := 40) dX6_take_37 gX6_155 rfl hb.ord rfl rfl (Nat.le_of_ble_eq_true rfl) rfl (by decide) (c_settle 1 len1 D2 _ (dropT T n j) (n - 1) hT2 v2) (fun res3 D3 J3 hp => ?_)
    obtain ⟨rfl, rfl, hO3, hf3⟩ := hp
    have hT3 : TabOf D3 3 (dropT T n j) := hT2.of (hf3 _ (by decide) (by decide) (by decide) (by decide)) (hf3 _ (by decide) (by decide) (by decide) (by decide)) (hf3 _ (by decide) (by decide) (by decide) (by decide)) (hf3 _ (by decide) (by decide) (by decide) (by decide))
    refine fv_aload_n (q := 41) dX6_take_40 rfl rfl ?_
    refine fl_getR (q := 44) dX6_take_41 fX6_27 sh0 rfl rfl ?_
    refine fl_getI (q := 47) dX6_take_44 fX6_62 hb.tab.sh.1 rfl rfl ?_
    refine fv_top (hT3.n v2) ?_
    refine fv_iret dX6_take_47 rfl rfl (Nat.le_refl _) ?_
    have e9 : f_take (T, n, P, I, B, s) (nI j) = (nI (n - 1), (dropT T n j, n - 1, tk T P, I, B, s)) := by unfold f_take; rw [if_neg (by rw [c8]; decide), hjc]
    refine hPost _ _ _ ⟨by rw [e9], ?_, fun a ha => ?_, fun _ _ => rfl⟩
    · rw [e9]
      exact hX.mk hT3 hO3 (hH1.of (fun a g1 g2 => by rw [hf3 a (by omega) (by omega) (by omega) (by omega), hf2 a (by omega) (by omega) (by omega) (by omega)])) (fun a ha => by rw [hf3 a (by omega) (by omega) (by omega) (by omega), hf2 a (by omega) (by omega) (by omega) (by omega), hf1 a (by omega)])
    · rw [hf3 a (by omega) (by omega) (by omega) (by omega), hf2 a (by omega) (by omega) (by omega) (by omega), hf1 a (by omega)]
  · rw [bi_0] at c8
    refine fv_ldc (q := 13) dX6_take_11 kX6_104 rfl ?_
    refine fv_iret dX6_take_13 rfl rfl (Nat.le_refl _) ?_
    have e9 : f_take (T, n, P, I, B, s) r = (-1000000001, (T, n, P, I, B, s)) := by unfold f_take; rw [if_pos c8]
    exact hPost _ _ _ ⟨by rw [e9], by rw [e9]; exact hX, KX.rf⟩
theorem chg_tab {D : Nat → Nat → Int32} {t r : Nat} {T : Nat → Int32} {k w : Int32} (hr : r < 40) (hT : TabOf D t T) : TabOf (up (up D (t + 2) r k) (t + 3) r w) t (chgT T r k w) := by
  refine ⟨fun f hf => ?_, fun i hi => ?_, fun i hi => ?_, fun i hi => ?_⟩
  · rw [up_n _ _ _ (by omega), up_n _ _ _ (by omega), hT.1 f hf]
    unfold chgT; rw [if_neg (by omega), if_neg (by omega)]
  · rw [up_n _ _ _ (by omega), up_n _ _ _ (by omega), hT.2.1 i hi]
    unfold pa chgT; rw [if_neg (by omega), if_neg (by omega)]
  · rw [up_n _ _ _ (by omega), up_s]
    unfold ke chgT
    by_cases h : i = r
    · subst h; rw [pk_us, if_pos rfl]
    · rw [pk_un h, hT.2.2.1 i hi, if_neg (by omega), if_neg (by omega)]; rfl
  · rw [up_s, up_n _ _ _ (by omega)]
    unfold wo chgT
    rw [if_neg (by omega)]
    by_cases h : i = r
    · subst h; rw [pk_us, if_pos rfl]
    · rw [pk_un h, hT.2.2.2 i hi, if_neg (by omega)]; rfl
theorem frm_tab {D : Nat → Nat → Int32} {t : Nat} {T : Nat → Int32} {m b e l : Int32} (hT : TabOf D t T) : TabOf (up (up (up (up D t 4 m) t 5 b) t 6 e) t 7 l) t (frmT T m b e l) := by
  have k : ∀ a, a ≠ t → up (up (up (up D t 4 m) t 5 b) t 6 e) t 7 l a = D a := fun a ha => by rw [up_n _ _ _ ha, up_n _ _ _ ha, up_n _ _ _ ha, up_n _ _ _ ha]
  refine ⟨fun f hf => ?_, fun i hi => ?_, fun i hi => ?_, fun i hi => ?_⟩
  · simp only [up_s]
    match f, hf with
    | 0, _ => simp [upd, frmT]; exact hT.1 0 (by decide)
    | 1, _ => simp [upd, frmT]
    | 2, _ => simp [upd, frmT]
    | 3, _ => simp [upd, frmT]
    | 4, _ => simp [upd, frmT]
    | 5, _ => simp [upd, frmT]; exact hT.1 5 (by decide)
    | n + 6, h => omega
  · rw [k _ (by omega), hT.2.1 i hi]; unfold pa frmT; rw [if_neg (by omega), if_neg (by omega), if_neg (by omega), if_neg (by omega)]
  · rw [k _ (by omega), hT.2.2.1 i hi]; unfold ke frmT; rw [if_neg (by omega), if_neg (by omega), if_neg (by omega), if_neg (by omega)]
  · rw [k _ (by omega), hT.2.2.2 i hi]; unfold wo frmT; rw [if_neg (by omega), if_neg (by omega), if_neg (by omega), if_neg (by omega)]
theorem ahd_tab {D : Nat → Nat → Int32} {t : Nat} {T : Nat → Int32} {c : Int32} (hT : TabOf D t T) : TabOf (up D t 8 c) t (ahdT T c) := by
  refine ⟨fun f hf => ?_, fun i hi => ?_, fun i hi => ?_, fun i hi => ?_⟩
  · rw [up_s]
    by_cases h : f = 5
    · subst h; rw [show 3 + 5 = 8 from rfl, pk_us]; rfl
    · rw [pk_un (by omega), hT.1 f hf]; unfold ahdT; rw [if_neg h]
  · rw [up_n _ _ _ (by omega), hT.2.1 i hi]; unfold pa ahdT; rw [if_neg (by omega)]
  · rw [up_n _ _ _ (by omega), hT.2.2.1 i hi]; unfold ke ahdT; rw [if_neg (by omega)]
  · rw [up_n _ _ _ (by omega), hT.2.2.2 i hi]; unfold wo ahdT; rw [if_neg (by omega)]
set_option maxHeartbeats 4000000 in
set_option maxRecDepth 100000 in
theorem c_change (D : Nat → Nat → Int32) (J : Nat → Nat → Int64) (σ : Sg) (hX : XR D σ) (ok : SgOk σ) (r k w : Int32) : FD yX6_change cX6_change 5 (some .int) 4 [.ref 0, .int r, .int k, .int w] D J (fun res D' J' => res = some (.int (f_change σ r k w).1) ∧ XR D' (f_change σ r k w).2 ∧ KX D D' J J') := by
  refine FD.of (by decide) rfl (Nat.le_of_ble_eq_true rfl) (fun Post hPost => ?_)
  show FV _ _ _ _ _ _ _ _ _ _ _ _ [_, _, _, _, _] [] _
  obtain ⟨T, n, P, I, B, s⟩ := σ
  have hT : TabOf D 3 T := hX.1
  have hO : OrdOf D 1 T n := hX.2.1
  have hH : HisOf D P := hX.2.2.1
  have hI : ImgOf D I := hX.2.2.2.1
  have hB : BookOf D B := hX.2.2.2.2.1
  have hs : D 0 9 = s := hX.2.2.2.2.2
  have v : VT T n := ok.1
  have h40 := v.2.1
  have hn : D 3 3 = nI n := hT.n v
  have hb := len1
  have hz : D 3 8 = 0 ∨ D 3 8 = 1 := by rw [hT.1 5 (by decide)]; exact v.2.2.1
  refine fv_aload_n (q := 1) dX6_change_0 rfl rfl ?_
  refine fl_getR (q := 4) dX6_change_1 fX6_27 sh0 rfl rfl ?_
  refine fv_iload_n (q := 5) dX6_change_4 rfl rfl ?_
  refine fl_callVi (As := [_]) (q := 8) dX6_change_5 gX6_100 rfl hb.tab.sh.1 rfl rfl (Nat.le_of_ble_eq_true rfl) rfl (by decide) (c_has 3 tab3 r D J) ?_
  refine fv_top (y := bi (okr n r)) (by rw [hn]; rfl) ?_
  refine fv_if_ne (q := 11) 14 dX6_change_8 (by decide) rfl (fun c8 => ?_) (fun c8 => ?_)
  · rw [bi_n'] at c8
    obtain ⟨j, hj, hrj, hjc⟩ := okr_t c8 h40
    refine fv_iload_n (q := 15) dX6_change_14 rfl rfl ?_
    refine fl_callSi (As := [_]) (q := 18) dX6_change_15 gX6_140 rfl rfl (Nat.le_of_ble_eq_true rfl) rfl (by decide) (c_isKey D J k) ?_
    refine fv_if_eq (q := 21) 28 dX6_change_18 (by decide) rfl (fun c18 => ?_) (fun c18 => ?_)
    · rw [bi_0] at c18
      refine fv_ldc (q := 30) dX6_change_28 kX6_99 rfl ?_
      refine fv_iret dX6_change_30 rfl rfl (Nat.le_refl _) ?_
      have e9 : f_change (T, n, P, I, B, s) r k w = (-1000000002, (T, n, P, I, B, s)) := by unfold f_change; rw [if_neg (by rw [c8]; decide), if_pos (by rw [c18]; rfl)]
      exact hPost _ _ _ ⟨by rw [e9], by rw [e9]; exact hX, KX.rf⟩
    · rw [bi_n'] at c18
      refine fv_iload_n (q := 22) dX6_change_21 rfl rfl ?_
      refine fl_callSi (As := [_]) (q := 25) dX6_change_22 gX6_143 rfl rfl (Nat.le_of_ble_eq_true rfl) rfl (by decide) (c_isWorth D J w) ?_
      refine fv_if_ne (q := 28) 31 dX6_change_25 (by decide) rfl (fun c25 => ?_) (fun c25 => ?_)
      · rw [bi_n'] at c25
        subst hrj
        refine fv_aload_n (q := 32) dX6_change_31 rfl rfl ?_
        refine fl_getR (q := 35) dX6_change_32 fX6_20 sh0 rfl rfl ?_
        refine fl_getR (q := 38) dX6_change_35 fX6_128 hb.ord rfl rfl ?_
        refine fv_iload_n (q := 39) dX6_change_38 rfl rfl ?_
        refine fl_iald (q := 40) _ dX6_change_39 hb.arr.2.1 (by decide) rfl (by omega) rfl ?_
        refine fv_top (hO.2.1 j hj) ?_
        refine fv_istore (q := 42) (l' := [_, _, _, _, _]) dX6_change_40 (by decide) rfl rfl rfl ?_
        refine fv_aload_n (q := 43) dX6_change_42 rfl rfl ?_
        refine fl_getR (q := 46) dX6_change_43 fX6_40 sh0 rfl rfl ?_
        refine fv_aload_n (q := 47) dX6_change_46 rfl rfl ?_
        refine fl_getR (q := 50) dX6_change_47 fX6_27 sh0 rfl rfl ?_
        refine fl_callV (As := [_]) (q := 53) dX6_change_50 gX6_147 rfl sh27 rfl rfl (Nat.le_of_ble_eq_true rfl) rfl (by decide) (c_remember D J P hH T hT hz) (fun res D1 J1 hp => ?_)
        obtain ⟨rfl, rfl, hH1, hf1⟩ := hp
        have hT1 : TabOf D1 3 T := hT.of (hf1 _ (by decide)) (hf1 _ (by decide)) (hf1 _ (by decide)) (hf1 _ (by decide))
        refine fv_aload_n (q := 54) dX6_change_53 rfl rfl ?_
        refine fl_getR (q := 57) dX6_change_54 fX6_27 sh0 rfl rfl ?_
        refine fl_getR (q := 60) dX6_change_57 fX6_109 hb.tab.sh.1 rfl rfl ?_
        refine fv_iload_n (q := 61) dX6_change_60 rfl rfl ?_
        refine fv_iload_n (q := 62) dX6_change_61 rfl rfl ?_
        refine fl_iast (q := 63) _ dX6_change_62 hb.tab.sh.2.2.1 (by decide) rfl (by omega) rfl ?_
        refine fv_aload_n (q := 64) dX6_change_63 rfl rfl ?_
        refine fl_getR (q := 67) dX6_change_64 fX6_27 sh0 rfl rfl ?_
        refine fl_getR (q := 70) dX6_change_67 fX6_112 hb.tab.sh.1 rfl rfl ?_
        refine fv_iload_n (q := 71) dX6_change_70 rfl rfl ?_
        refine fv_iload_n (q := 72) dX6_change_71 rfl rfl ?_
        refine fl_iast (q := 73) _ dX6_change_72 hb.tab.sh.2.2.2 (by decide) rfl (by omega) rfl ?_
        refine fv_aload_n (q := 74) dX6_change_73 rfl rfl ?_
        refine fl_getR (q := 77) dX6_change_74 fX6_20 sh0 rfl rfl ?_
        have hT2 : TabOf (up (up D1 5 j k) 6 j w) 3 (chgT T j k w) := chg_tab (by omega) hT1
        have v2 : VT (chgT T j k w) n := VT_chg v hj (isKeyB_i.mp c18) (isWorB_i.mp c25)
        have hf2 : ∀ a, a ≠ 5 → a ≠ 6 → up (up D1 5 j k) 6 j w a = D1 a := fun a g1 g2 => by rw [up_n _ _ _ g2, up_n _ _ _ g1]
        have hp1 := pos_lt (T := T) hj
        have hp2 := pos_lt (T := chgT T j k w) hj
        refine fl_callV (As := []) (q := 80) dX6_change_77 gX6_155 rfl hb.ord rfl rfl (Nat.le_of_ble_eq_true rfl) rfl (by decide) (c_settle 1 len1 _ _ (chgT T j k w) (n) hT2 v2) (fun res3 D3 J3 hp => ?_)
        obtain ⟨rfl, rfl, hO3, hf3⟩ := hp
        have hT3 : TabOf D3 3 (chgT T j k w) := hT2.of (hf3 _ (by decide) (by decide) (by decide) (by decide)) (hf3 _ (by decide) (by decide) (by decide) (by decide)) (hf3 _ (by decide) (by decide) (by decide) (by decide)) (hf3 _ (by decide) (by decide) (by decide) (by decide))
        refine fv_aload_n (q := 81) dX6_change_80 rfl rfl ?_
        refine fl_getR (q := 84) dX6_change_81 fX6_20 sh0 rfl rfl ?_
        refine fl_getR (q := 87) dX6_change_84 fX6_128 hb.ord rfl rfl ?_
        refine fv_iload_n (q := 88) dX6_change_87 rfl rfl ?_
        refine fl_iald (q := 89) _ dX6_change_88 hb.arr.2.1 (by decide) rfl (by omega) rfl ?_
        refine fv_top (hO3.2.1 j hj) ?_
        refine fv_iload (q := 91) dX6_change_89 rfl rfl ?_
        refine fv_icmp_ne (q := 94) 98 dX6_change_91 (by decide) rfl (fun c91 => ?_) (fun c91 => ?_)
        · rw [nI_eq (by omega) (by omega)] at c91
          refine fv_iconst (v := 1) (q := 99) dX6_change_98 (by decide) rfl ?_
          refine fv_iret dX6_change_99 rfl rfl (Nat.le_refl _) ?_
          have e9 : f_change (T, n, P, I, B, s) (nI j) k w = (1, (chgT T j k w, n, tk T P, I, B, s)) := by unfold f_change; rw [if_neg (by rw [c8]; decide), if_neg (by rw [c18, c25]; decide), hjc]; show (if pos (chgT T j k w) n j = pos T n j then _ else _, _) = _; rw [if_neg c91]
          refine hPost _ _ _ ⟨by rw [e9], ?_, fun a ha => ?_, fun _ _ => rfl⟩
          · rw [e9]
            exact hX.mk hT3 hO3 (hH1.of (fun a g1 g2 => by rw [hf3 a (by omega) (by omega) (by omega) (by omega), hf2 a (by omega) (by omega)])) (fun a ha => by rw [hf3 a (by omega) (by omega) (by omega) (by omega), hf2 a (by omega) (by omega), hf1 a (by omega)])
          · rw [hf3 a (by omega) (by omega) (by omega) (by omega), hf2 a (by omega) (by omega), hf1 a (by omega)]
        · rw [nI_eq (by omega) (by omega)] at c91
          refine fv_iconst (v := 0) (q := 95) dX6_change_94 (by decide) rfl ?_
          refine fv_goto 99 dX6_change_95 (by decide) ?_
          refine fv_iret dX6_change_99 rfl rfl (Nat.le_refl _) ?_
          have e9 : f_change (T, n, P, I, B, s) (nI j) k w = (0, (chgT T j k w, n, tk T P, I, B, s)) := by unfold f_change; rw [if_neg (by rw [c8]; decide), if_neg (by rw [c18, c25]; decide), hjc]; show (if pos (chgT T j k w) n j = pos T n j then _ else _, _) = _; rw [if_pos c91]
          refine hPost _ _ _ ⟨by rw [e9], ?_, fun a ha => ?_, fun _ _ => rfl⟩
          · rw [e9]
            exact hX.mk hT3 hO3 (hH1.of (fun a g1 g2 => by rw [hf3 a (by omega) (by omega) (by omega) (by omega), hf2 a (by omega) (by omega)])) (fun a ha => by rw [hf3 a (by omega) (by omega) (by omega) (by omega), hf2 a (by omega) (by omega), hf1 a (by omega)])
          · rw [hf3 a (by omega) (by omega) (by omega) (by omega), hf2 a (by omega) (by omega), hf1 a (by omega)]
      · rw [bi_0] at c25
        refine fv_ldc (q := 30) dX6_change_28 kX6_99 rfl ?_
        refine fv_iret dX6_change_30 rfl rfl (Nat.le_refl _) ?_
        have e9 : f_change (T, n, P, I, B, s) r k w = (-1000000002, (T, n, P, I, B, s)) := by unfold f_change; rw [if_neg (by rw [c8]; decide), if_pos (by rw [c18, c25]; rfl)]
        exact hPost _ _ _ ⟨by rw [e9], by rw [e9]; exact hX, KX.rf⟩
  · rw [bi_0] at c8
    refine fv_ldc (q := 13) dX6_change_11 kX6_104 rfl ?_
    refine fv_iret dX6_change_13 rfl rfl (Nat.le_refl _) ?_
    have e9 : f_change (T, n, P, I, B, s) r k w = (-1000000001, (T, n, P, I, B, s)) := by unfold f_change; rw [if_pos c8]
    exact hPost _ _ _ ⟨by rw [e9], by rw [e9]; exact hX, KX.rf⟩
theorem pos_cong {T T' : Nat → Int32} {n : Nat} (h1 : ∀ r, pz T' r = pz T r) (h2 : ∀ r, oz T' r = oz T r) : pos T' n = pos T n := by
  funext r
  unfold pos
  refine fb_ct_cong (fun e _ => ?_)
  unfold bf
  rw [h1, h1, h2, h2]
theorem lin_cong {T T' : Nat → Int32} {n : Nat} (h : pos T' n = pos T n) : lin T' n = lin T n := by
  funext k
  unfold lin
  rw [h]
theorem frm_ord {D : Nat → Nat → Int32} {b n : Nat} {T : Nat → Int32} {m x e l : Int32} (hO : OrdOf D b T n) : OrdOf D b (frmT T m x e l) n := by
  have k : ∀ i, i = 0 ∨ 4 < i → frmT T m x e l i = T i := fun i hi => by unfold frmT; rw [if_neg (by omega), if_neg (by omega), if_neg (by omega), if_neg (by omega)]
  have h1 : ∀ r, pa (frmT T m x e l) r = pa T r := fun r => k _ (by omega)
  have h2 : ∀ r, ke (frmT T m x e l) r = ke T r := fun r => k _ (by omega)
  have p1 : ∀ r, pz (frmT T m x e l) r = pz T r := fun r => by unfold pz; rw [h1]
  have p2 : ∀ r, oz (frmT T m x e l) r = oz T r := fun r => by unfold oz od okk; rw [h2, k 5 (by omega)]
  have hp := pos_cong (n := n) p1 p2
  have hl := lin_cong hp
  have hf : pf (frmT T m x e l) n = pf T n := by
    funext r; unfold pf cf; exact fb_ct_cong (fun e _ => by rw [p1, p1])
  have hg : ∀ i, grk (frmT T m x e l) n i = grk T n i := by
    intro i
    induction i with
    | zero => rfl
    | succ i ih => rw [grk, grk, ih, hl, h1, h1, h2, h2]
  obtain ⟨o1, o2, o3, o4⟩ := hO
  refine ⟨fun i hi => by rw [hl]; exact o1 i hi, fun r hr => by rw [hp]; exact o2 r hr, fun r hr => by rw [hp, hf]; exact o3 r hr, fun r hr => ?_⟩
  unfold gr
  rw [hg, hp]
  exact o4 r hr
set_option maxHeartbeats 4000000 in
set_option maxRecDepth 100000 in
theorem c_frame (D : Nat → Nat → Int32) (J : Nat → Nat → Int64) (σ : Sg) (hX : XR D σ) (ok : SgOk σ) (m b e l : Int32) : FD yX6_frame cX6_frame 5 (some .int) 5 [.ref 0, .int m, .int b, .int e, .int l] D J (fun res D' J' => res = some (.int (f_frame σ m b e l).1) ∧ XR D' (f_frame σ m b e l).2 ∧ KX D D' J J') := by
  refine FD.of (by decide) rfl (Nat.le_of_ble_eq_true rfl) (fun Post hPost => ?_)
  show FV _ _ _ _ _ _ _ _ _ _ _ _ [_, _, _, _, _] [] _
  obtain ⟨T, n, P, I, B, s⟩ := σ
  have hT : TabOf D 3 T := hX.1
  have hO : OrdOf D 1 T n := hX.2.1
  have hH : HisOf D P := hX.2.2.1
  have hI : ImgOf D I := hX.2.2.2.1
  have hB : BookOf D B := hX.2.2.2.2.1
  have hs : D 0 9 = s := hX.2.2.2.2.2
  have v : VT T n := ok.1
  have h40 := v.2.1
  have hn : D 3 3 = nI n := hT.n v
  have hb := len1
  have hz : D 3 8 = 0 ∨ D 3 8 = 1 := by rw [hT.1 5 (by decide)]; exact v.2.2.1
  refine fv_iload_n (q := 1) dX6_frame_0 rfl rfl ?_
  refine fv_iconst (v := 0) (q := 2) dX6_frame_1 (by decide) rfl ?_
  refine fv_iconst (v := 2) (q := 3) dX6_frame_2 (by decide) rfl ?_
  refine fl_callSi (As := [_, _, _]) (q := 6) dX6_frame_3 gX6_162 rfl rfl (Nat.le_of_ble_eq_true rfl) rfl (by decide) (c_within D J m 0 2) ?_
  refine fv_if_eq (q := 9) 33 dX6_frame_6 (by decide) rfl (fun c6 => ?_) (fun c6 => ?_)
  · rw [bi_0] at c6
    refine fv_ldc (q := 35) dX6_frame_33 kX6_99 rfl ?_
    refine fv_iret dX6_frame_35 rfl rfl (Nat.le_refl _) ?_
    have e9 : f_frame (T, n, P, I, B, s) m b e l = (-1000000002, (T, n, P, I, B, s)) := by unfold f_frame; rw [if_pos (by rw [c6]; simp)]
    exact hPost _ _ _ ⟨by rw [e9], by rw [e9]; exact hX, KX.rf⟩
  · rw [bi_n'] at c6
    refine fv_iload_n (q := 10) dX6_frame_9 rfl rfl ?_
    refine fl_callSi (As := [_]) (q := 13) dX6_frame_10 gX6_166 rfl rfl (Nat.le_of_ble_eq_true rfl) rfl (by decide) (c_isBound D J b) ?_
    refine fv_if_eq (q := 16) 33 dX6_frame_13 (by decide) rfl (fun c13 => ?_) (fun c13 => ?_)
    · rw [bi_0] at c13
      refine fv_ldc (q := 35) dX6_frame_33 kX6_99 rfl ?_
      refine fv_iret dX6_frame_35 rfl rfl (Nat.le_refl _) ?_
      have e9 : f_frame (T, n, P, I, B, s) m b e l = (-1000000002, (T, n, P, I, B, s)) := by unfold f_frame; rw [if_pos (by rw [c13]; simp)]
      exact hPost _ _ _ ⟨by rw [e9], by rw [e9]; exact hX, KX.rf⟩
    · rw [bi_n'] at c13
      refine fv_iload_n (q := 17) dX6_frame_16 rfl rfl ?_
      refine fl_callSi (As := [_]) (q := 20) dX6_frame_17 gX6_166 rfl rfl (Nat.le_of_ble_eq_true rfl) rfl (by decide) (c_isBound D J e) ?_
      refine fv_if_eq (q := 23) 33 dX6_frame_20 (by decide) rfl (fun c20 => ?_) (fun c20 => ?_)
      · rw [bi_0] at c20
        refine fv_ldc (q := 35) dX6_frame_33 kX6_99 rfl ?_
        refine fv_iret dX6_frame_35 rfl rfl (Nat.le_refl _) ?_
        have e9 : f_frame (T, n, P, I, B, s) m b e l = (-1000000002, (T, n, P, I, B, s)) := by unfold f_frame; rw [if_pos (by rw [c20]; simp)]
        exact hPost _ _ _ ⟨by rw [e9], by rw [e9]; exact hX, KX.rf⟩
      · rw [bi_n'] at c20
        refine fv_iload (q := 25) dX6_frame_23 rfl rfl ?_
        refine fv_iconst (v := 0) (q := 26) dX6_frame_25 (by decide) rfl ?_
        refine fv_iconst (v := 3) (q := 27) dX6_frame_26 (by decide) rfl ?_
        refine fl_callSi (As := [_, _, _]) (q := 30) dX6_frame_27 gX6_162 rfl rfl (Nat.le_of_ble_eq_true rfl) rfl (by decide) (c_within D J l 0 3) ?_
        refine fv_if_ne (q := 33) 36 dX6_frame_30 (by decide) rfl (fun c30 => ?_) (fun c30 => ?_)
        · rw [bi_n'] at c30
          refine fv_aload_n (q := 37) dX6_frame_36 rfl rfl ?_
          refine fl_getR (q := 40) dX6_frame_37 fX6_40 sh0 rfl rfl ?_
          refine fv_aload_n (q := 41) dX6_frame_40 rfl rfl ?_
          refine fl_getR (q := 44) dX6_frame_41 fX6_27 sh0 rfl rfl ?_
          refine fl_callV (As := [_]) (q := 47) dX6_frame_44 gX6_147 rfl sh27 rfl rfl (Nat.le_of_ble_eq_true rfl) rfl (by decide) (c_remember D J P hH T hT hz) (fun res D1 J1 hp => ?_)
          obtain ⟨rfl, rfl, hH1, hf1⟩ := hp
          have hT1 : TabOf D1 3 T := hT.of (hf1 _ (by decide)) (hf1 _ (by decide)) (hf1 _ (by decide)) (hf1 _ (by decide))
          refine fv_aload_n (q := 48) dX6_frame_47 rfl rfl ?_
          refine fl_getR (q := 51) dX6_frame_48 fX6_27 sh0 rfl rfl ?_
          refine fv_iload_n (q := 52) dX6_frame_51 rfl rfl ?_
          refine fl_putI (q := 55) dX6_frame_52 fX6_74 hb.tab.sh.1 rfl rfl rfl rfl ?_
          refine fv_aload_n (q := 56) dX6_frame_55 rfl rfl ?_
          refine fl_getR (q := 59) dX6_frame_56 fX6_27 sh0 rfl rfl ?_
          refine fv_iload_n (q := 60) dX6_frame_59 rfl rfl ?_
          refine fl_putI (q := 63) dX6_frame_60 fX6_77 hb.tab.sh.1 rfl rfl rfl rfl ?_
          refine fv_aload_n (q := 64) dX6_frame_63 rfl rfl ?_
          refine fl_getR (q := 67) dX6_frame_64 fX6_27 sh0 rfl rfl ?_
          refine fv_iload_n (q := 68) dX6_frame_67 rfl rfl ?_
          refine fl_putI (q := 71) dX6_frame_68 fX6_80 hb.tab.sh.1 rfl rfl rfl rfl ?_
          refine fv_aload_n (q := 72) dX6_frame_71 rfl rfl ?_
          refine fl_getR (q := 75) dX6_frame_72 fX6_27 sh0 rfl rfl ?_
          refine fv_iload (q := 77) dX6_frame_75 rfl rfl ?_
          refine fl_putI (q := 80) dX6_frame_77 fX6_83 hb.tab.sh.1 rfl rfl rfl rfl ?_
          refine fv_aload_n (q := 81) dX6_frame_80 rfl rfl ?_
          refine fl_getR (q := 84) dX6_frame_81 fX6_10 sh0 rfl rfl ?_
          have hT2 : TabOf (up (up (up (up D1 3 4 m) 3 5 b) 3 6 e) 3 7 l) 3 (frmT T m b e l) := frm_tab hT1
          have v2 : VT (frmT T m b e l) n := VT_frm v (isBndB_i.mp c13) (isBndB_i.mp c20)
          have hf2 : ∀ a, a ≠ 3 → up (up (up (up D1 3 4 m) 3 5 b) 3 6 e) 3 7 l a = D1 a := fun a g => by rw [up_n _ _ _ g, up_n _ _ _ g, up_n _ _ _ g, up_n _ _ _ g]
          have hO2 : OrdOf (up (up (up (up D1 3 4 m) 3 5 b) 3 6 e) 3 7 l) 1 (frmT T m b e l) n := frm_ord (hO.of ((hf2 _ (by decide)).trans (hf1 _ (by decide))) ((hf2 _ (by decide)).trans (hf1 _ (by decide))) ((hf2 _ (by decide)).trans (hf1 _ (by decide))) ((hf2 _ (by decide)).trans (hf1 _ (by decide))))
          refine fl_callV (As := []) (q := 87) dX6_frame_84 gX6_169 rfl hb.len rfl rfl (Nat.le_of_ble_eq_true rfl) rfl (by decide) (c_rowsAll 1 len1 _ _ (frmT T m b e l) n hT2 v2 hO2) (fun res3 D3 J3 hp => ?_)
          obtain ⟨rfl, rfl, hf3⟩ := hp
          refine fv_iret dX6_frame_87 rfl rfl (Nat.le_refl _) ?_
          have e9 : f_frame (T, n, P, I, B, s) m b e l = (nI (fb_sm (fun r => (frL (frmT T m b e l) n r n).length) n), (frmT T m b e l, n, tk T P, I, B, s)) := by unfold f_frame; rw [if_neg (by rw [c6, c13, c20, c30]; decide)]
          refine hPost _ _ _ ⟨by rw [e9], ?_, fun a ha => ?_, fun _ _ => rfl⟩
          · rw [e9]
            exact hX.mk (hT2.of (hf3 _ (by decide) (by decide) (by decide)) (hf3 _ (by decide) (by decide) (by decide)) (hf3 _ (by decide) (by decide) (by decide)) (hf3 _ (by decide) (by decide) (by decide))) (hO2.of (hf3 _ (by decide) (by decide) (by decide)) (hf3 _ (by decide) (by decide) (by decide)) (hf3 _ (by decide) (by decide) (by decide)) (hf3 _ (by decide) (by decide) (by decide))) (hH1.of (fun a g1 g2 => by rw [hf3 a (by omega) (by omega) (by omega), hf2 a (by omega)])) (fun a ha => by rw [hf3 a (by omega) (by omega) (by omega), hf2 a (by omega), hf1 a (by omega)])
          · rw [hf3 a (by omega) (by omega) (by omega), hf2 a (by omega), hf1 a (by omega)]
        · rw [bi_0] at c30
          refine fv_ldc (q := 35) dX6_frame_33 kX6_99 rfl ?_
          refine fv_iret dX6_frame_35 rfl rfl (Nat.le_refl _) ?_
          have e9 : f_frame (T, n, P, I, B, s) m b e l = (-1000000002, (T, n, P, I, B, s)) := by unfold f_frame; rw [if_pos (by rw [c30]; simp)]
          exact hPost _ _ _ ⟨by rw [e9], by rw [e9]; exact hX, KX.rf⟩
