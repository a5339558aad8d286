set_option maxHeartbeats 4000000 in
set_option maxRecDepth 100000 in
theorem c_write (D : Nat → Nat → Int32) (J : Nat → Nat → Int64) (σ : Sg) (hX : XR D σ) (ok : SgOk σ) (r w u : Int32) : FD yX6_write cX6_write 4 (some .int) 2 [.ref 0, .int r, .int w, .int u] D J (fun res D' J' => res = some (.int (f_write σ r w u).1) ∧ XR D' (f_write σ r w u).2 ∧ KX D D' J J') := by
  refine FD.of (by decide) rfl (Nat.le_of_ble_eq_true rfl) (fun Post hPost => ?_)
  show FV _ _ _ _ _ _ _ _ _ _ _ _ [_, _, _, _] [] _
  obtain ⟨T, n, P, I, B, s⟩ := σ
  have hT : TabOf D 3 T := hX.1
  have hO : OrdOf D 1 T n := hX.2.1
  have hH : HisOf D P := hX.2.2.1
  have hI : ImgOf D I := hX.2.2.2.1
  have hB : BookOf D B := hX.2.2.2.2.1
  have hs : D 0 9 = s := hX.2.2.2.2.2
  have v : VT T n := ok.1
  have h40 := v.2.1
  have hn : D 3 3 = nI n := hT.n v
  have hb := len1
  refine fv_aload_n (q := 1) dX6_write_0 rfl rfl ?_
  refine fl_getR (q := 4) dX6_write_1 fX6_27 sh0 rfl rfl ?_
  refine fv_iload_n (q := 5) dX6_write_4 rfl rfl ?_
  refine fl_callVi (As := [_]) (q := 8) dX6_write_5 gX6_100 rfl hb.tab.sh.1 rfl rfl (Nat.le_of_ble_eq_true rfl) rfl (by decide) (c_has 3 tab3 r D J) ?_
  refine fv_top (y := bi (okr n r)) (by rw [hn]; rfl) ?_
  refine fv_if_ne (q := 11) 14 dX6_write_8 (by decide) rfl (fun c8 => ?_) (fun c8 => ?_)
  · rw [bi_n'] at c8
    obtain ⟨j, hj, hrj, hjc⟩ := okr_t c8 h40
    refine fv_iload_n (q := 15) dX6_write_14 rfl rfl ?_
    refine fl_callSi (As := [_]) (q := 18) dX6_write_15 gX6_187 rfl rfl (Nat.le_of_ble_eq_true rfl) rfl (by decide) (c_isOfFrame D J w) ?_
    refine fv_if_ne (q := 21) 24 dX6_write_18 (by decide) rfl (fun c18 => ?_) (fun c18 => ?_)
    · rw [bi_n'] at c18
      refine fv_aload_n (q := 25) dX6_write_24 rfl rfl ?_
      refine fl_getR (q := 28) dX6_write_25 fX6_47 sh0 rfl rfl ?_
      refine fl_getI (q := 31) dX6_write_28 fX6_93 sh109 rfl rfl ?_
      refine fv_top hB.1 ?_
      refine fv_bipush (v := 20) (q := 33) dX6_write_31 (by decide) rfl ?_
      refine fv_icmp_lt (q := 36) 39 dX6_write_33 (by decide) rfl (fun c33 => ?_) (fun c33 => ?_)
      · have h20 : B.length < 20 := (nI_ltI (by have := hB.2.1; omega) (by decide)).mp (show nI B.length < nI 20 from c33)
        refine fv_aload_n (q := 40) dX6_write_39 rfl rfl ?_
        refine fl_getR (q := 43) dX6_write_40 fX6_47 sh0 rfl rfl ?_
        refine fv_iload_n (q := 44) dX6_write_43 rfl rfl ?_
        refine fv_iload_n (q := 45) dX6_write_44 rfl rfl ?_
        refine fv_iload_n (q := 46) dX6_write_45 rfl rfl ?_
        subst hrj
        refine fl_callV (As := [_, _, _]) (q := 49) dX6_write_46 gX6_214 rfl sh109 rfl rfl (Nat.le_of_ble_eq_true rfl) rfl (by decide) (c_append D J B hB h20 j (by omega) w u) (fun res D1 J1 hp => ?_)
        obtain ⟨rfl, rfl, hB1, hf1⟩ := hp
        refine fv_aload_n (q := 50) dX6_write_49 rfl rfl ?_
        refine fl_getR (q := 53) dX6_write_50 fX6_47 sh0 rfl rfl ?_
        refine fl_getI (q := 56) dX6_write_53 fX6_93 sh109 rfl rfl ?_
        refine fv_top hB1.1 ?_
        refine fv_iret dX6_write_56 rfl rfl (Nat.le_refl _) ?_
        have e9 : f_write (T, n, P, I, B, s) (nI j) w u = (nI (B.length + 1), (T, n, P, I, B ++ [(j, w, u)], s)) := by unfold f_write; rw [if_neg (by rw [c8]; decide), if_neg (by rw [c18]; decide), if_neg (show ¬ 20 ≤ B.length by omega), hjc]
        refine hPost _ _ _ ⟨by rw [e9, List.length_append]; rfl, ?_, fun a ha => hf1 a (by omega) (by omega) (by omega) (by omega), fun _ _ => rfl⟩
        rw [e9]
        exact ⟨hT.of (hf1 _ (by decide) (by decide) (by decide) (by decide)) (hf1 _ (by decide) (by decide) (by decide) (by decide)) (hf1 _ (by decide) (by decide) (by decide) (by decide)) (hf1 _ (by decide) (by decide) (by decide) (by decide)), hO.of (hf1 _ (by decide) (by decide) (by decide) (by decide)) (hf1 _ (by decide) (by decide) (by decide) (by decide)) (hf1 _ (by decide) (by decide) (by decide) (by decide)) (hf1 _ (by decide) (by decide) (by decide) (by decide)), hH.of (fun a g1 g2 => hf1 a (by omega) (by omega) (by omega) (by omega)), hI.of (fun a g1 g2 => hf1 a (by omega) (by omega) (by omega) (by omega)), hB1, by rw [hf1 _ (by decide) (by decide) (by decide) (by decide)]; exact hs⟩
      · have h20 : ¬ B.length < 20 := fun z => c33 (show nI B.length < nI 20 from nI_lt z (by decide))
        refine fv_ldc (q := 38) dX6_write_36 kX6_146 rfl ?_
        refine fv_iret dX6_write_38 rfl rfl (Nat.le_refl _) ?_
        have e9 : f_write (T, n, P, I, B, s) r w u = (-1000000004, (T, n, P, I, B, s)) := by unfold f_write; rw [if_neg (by rw [c8]; decide), if_neg (by rw [c18]; decide), if_pos (show 20 ≤ B.length by omega)]
        exact hPost _ _ _ ⟨by rw [e9], by rw [e9]; exact hX, KX.rf⟩
    · rw [bi_0] at c18
      refine fv_ldc (q := 23) dX6_write_21 kX6_99 rfl ?_
      refine fv_iret dX6_write_23 rfl rfl (Nat.le_refl _) ?_
      have e9 : f_write (T, n, P, I, B, s) r w u = (-1000000002, (T, n, P, I, B, s)) := by unfold f_write; rw [if_neg (by rw [c8]; decide), if_pos c18]
      exact hPost _ _ _ ⟨by rw [e9], by rw [e9]; exact hX, KX.rf⟩
  · rw [bi_0] at c8
    refine fv_ldc (q := 13) dX6_write_11 kX6_104 rfl ?_
    refine fv_iret dX6_write_13 rfl rfl (Nat.le_refl _) ?_
    have e9 : f_write (T, n, P, I, B, s) r w u = (-1000000001, (T, n, P, I, B, s)) := by unfold f_write; rw [if_pos c8]
    exact hPost _ _ _ ⟨by rw [e9], by rw [e9]; exact hX, KX.rf⟩
theorem XR.tab {D D' : Nat → Nat → Int32} {T : Nat → Int32} {n : Nat} {P : List (Nat → Int32)} {I : Nat → Option ((Nat → Int32) × Int32)} {B B' : List (Nat × Int32 × Int32)} {s s' : Int32} (h : XR D (T, n, P, I, B, s)) (hB : BookOf D' B') (hs : D' 0 9 = s') (h0 : ∀ a, 0 < a → a ≠ 109 → D' a = D a) : XR D' (T, n, P, I, B', s') :=
  ⟨h.1.of (h0 _ (by decide) (by decide)) (h0 _ (by decide) (by decide)) (h0 _ (by decide) (by decide)) (h0 _ (by decide) (by decide)), h.2.1.of (h0 _ (by decide) (by decide)) (h0 _ (by decide) (by decide)) (h0 _ (by decide) (by decide)) (h0 _ (by decide) (by decide)), h.2.2.1.of (fun a g1 g2 => by
    by_cases e : a = 109
    · omega
    · exact h0 a (by omega) e), h.2.2.2.1.of (fun a g1 g2 => h0 a (by omega) (by omega)), hB, hs⟩
set_option maxHeartbeats 4000000 in
set_option maxRecDepth 100000 in
theorem c_tear (D : Nat → Nat → Int32) (J : Nat → Nat → Int64) (σ : Sg) (hX : XR D σ) (ok : SgOk σ)  : FD yX6_tear cX6_tear 2 (some .int) 0 [.ref 0] D J (fun res D' J' => res = some (.int (f_tear σ).1) ∧ XR D' (f_tear σ).2 ∧ KX D D' J J') := by
  refine FD.of (by decide) rfl (Nat.le_of_ble_eq_true rfl) (fun Post hPost => ?_)
  show FV _ _ _ _ _ _ _ _ _ _ _ _ [_, _] [] _
  obtain ⟨T, n, P, I, B, s⟩ := σ
  have hT : TabOf D 3 T := hX.1
  have hO : OrdOf D 1 T n := hX.2.1
  have hH : HisOf D P := hX.2.2.1
  have hI : ImgOf D I := hX.2.2.2.1
  have hB : BookOf D B := hX.2.2.2.2.1
  have hs : D 0 9 = s := hX.2.2.2.2.2
  have v : VT T n := ok.1
  have h40 := v.2.1
  have hn : D 3 3 = nI n := hT.n v
  have hb := len1
  refine fv_aload_n (q := 1) dX6_tear_0 rfl rfl ?_
  refine fl_getR (q := 4) dX6_tear_1 fX6_47 sh0 rfl rfl ?_
  refine fl_getI (q := 7) dX6_tear_4 fX6_93 sh109 rfl rfl ?_
  refine fv_top hB.1 ?_
  refine fv_istore_n (i := 1) (q := 8) (l' := [_, _]) dX6_tear_7 rfl (by decide) rfl rfl rfl ?_
  refine fv_aload_n (q := 9) dX6_tear_8 rfl rfl ?_
  refine fl_getR (q := 12) dX6_tear_9 fX6_47 sh0 rfl rfl ?_
  refine fv_iconst (v := 0) (q := 13) dX6_tear_12 (by decide) rfl ?_
  refine fl_putI (q := 16) dX6_tear_13 fX6_93 sh109 rfl rfl rfl rfl ?_
  refine fv_iload_n (q := 17) dX6_tear_16 rfl rfl ?_
  refine fv_iret dX6_tear_17 rfl rfl (Nat.le_refl _) ?_
  exact hPost _ _ _ ⟨rfl, hX.tab ⟨by rw [up_s, pk_us]; rfl, by decide, fun j q h => by simp at h⟩ (by rw [up_n _ _ _ (by decide)]; exact hs) (fun a g1 g2 => up_n _ _ _ g2), fun a ha => up_n _ _ _ (by omega), fun _ _ => rfl⟩
set_option maxHeartbeats 4000000 in
set_option maxRecDepth 100000 in
theorem c_seed (D : Nat → Nat → Int32) (J : Nat → Nat → Int64) (σ : Sg) (hX : XR D σ) (ok : SgOk σ) (x : Int32) : FD yX6_seed cX6_seed 3 (some .int) 0 [.ref 0, .int x] D J (fun res D' J' => res = some (.int (f_seed σ x).1) ∧ XR D' (f_seed σ x).2 ∧ KX D D' J J') := by
  refine FD.of (by decide) rfl (Nat.le_of_ble_eq_true rfl) (fun Post hPost => ?_)
  show FV _ _ _ _ _ _ _ _ _ _ _ _ [_, _, _] [] _
  obtain ⟨T, n, P, I, B, s⟩ := σ
  have hT : TabOf D 3 T := hX.1
  have hO : OrdOf D 1 T n := hX.2.1
  have hH : HisOf D P := hX.2.2.1
  have hI : ImgOf D I := hX.2.2.2.1
  have hB : BookOf D B := hX.2.2.2.2.1
  have hs : D 0 9 = s := hX.2.2.2.2.2
  have v : VT T n := ok.1
  have h40 := v.2.1
  have hn : D 3 3 = nI n := hT.n v
  have hb := len1
  refine fv_iload_n (q := 1) dX6_seed_0 rfl rfl ?_
  refine fv_if_ge (q := 4) 7 dX6_seed_1 (by decide) rfl (fun c1 => ?_) (fun c1 => ?_)
  · refine fv_aload_n (q := 8) dX6_seed_7 rfl rfl ?_
    refine fl_getI (q := 11) dX6_seed_8 fX6_58 sh0 rfl rfl ?_
    refine fv_top hs ?_
    refine fv_istore_n (i := 2) (q := 12) (l' := [_, _, _]) dX6_seed_11 rfl (by decide) rfl rfl rfl ?_
    refine fv_aload_n (q := 13) dX6_seed_12 rfl rfl ?_
    refine fv_iload_n (q := 14) dX6_seed_13 rfl rfl ?_
    refine fl_putI (q := 17) dX6_seed_14 fX6_58 sh0 rfl rfl rfl rfl ?_
    refine fv_iload_n (q := 18) dX6_seed_17 rfl rfl ?_
    refine fv_iret dX6_seed_18 rfl rfl (Nat.le_refl _) ?_
    have e9 : f_seed (T, n, P, I, B, s) x = (s, (T, n, P, I, B, x)) := by unfold f_seed; rw [if_pos c1]
    exact hPost _ _ _ ⟨by rw [e9], by rw [e9]; exact hX.tab (hB.of (up_n _ _ _ (by decide)) (up_n _ _ _ (by decide)) (up_n _ _ _ (by decide)) (up_n _ _ _ (by decide))) (by rw [up_s, pk_us]) (fun a g1 g2 => up_n _ _ _ (by omega)), fun a ha => up_n _ _ _ (by omega), fun _ _ => rfl⟩
  · refine fv_ldc (q := 6) dX6_seed_4 kX6_99 rfl ?_
    refine fv_iret dX6_seed_6 rfl rfl (Nat.le_refl _) ?_
    have e9 : f_seed (T, n, P, I, B, s) x = (-1000000002, (T, n, P, I, B, s)) := by unfold f_seed; rw [if_neg c1]
    exact hPost _ _ _ ⟨by rw [e9], by rw [e9]; exact hX, KX.rf⟩
set_option maxHeartbeats 4000000 in
set_option maxRecDepth 100000 in
theorem c_ahead (D : Nat → Nat → Int32) (J : Nat → Nat → Int64) (σ : Sg) (hX : XR D σ) (ok : SgOk σ) (c : Int32) (hc : c = 0 ∨ c = 1) : FD yX6_ahead cX6_ahead 2 (some .int) 4 [.ref 0, .int c] D J (fun res D' J' => res = some (.int (f_ahead σ c).1) ∧ XR D' (f_ahead σ c).2 ∧ KX D D' J J') := by
  refine FD.of (by decide) rfl (Nat.le_of_ble_eq_true rfl) (fun Post hPost => ?_)
  show FV _ _ _ _ _ _ _ _ _ _ _ _ [_, _] [] _
  obtain ⟨T, n, P, I, B, s⟩ := σ
  have hT : TabOf D 3 T := hX.1
  have hO : OrdOf D 1 T n := hX.2.1
  have hH : HisOf D P := hX.2.2.1
  have hI : ImgOf D I := hX.2.2.2.1
  have hB : BookOf D B := hX.2.2.2.2.1
  have hs : D 0 9 = s := hX.2.2.2.2.2
  have v : VT T n := ok.1
  have h40 := v.2.1
  have hn : D 3 3 = nI n := hT.n v
  have hb := len1
  have hz : D 3 8 = 0 ∨ D 3 8 = 1 := by rw [hT.1 5 (by decide)]; exact v.2.2.1
  refine fv_aload_n (q := 1) dX6_ahead_0 rfl rfl ?_
  refine fl_getR (q := 4) dX6_ahead_1 fX6_40 sh0 rfl rfl ?_
  refine fv_aload_n (q := 5) dX6_ahead_4 rfl rfl ?_
  refine fl_getR (q := 8) dX6_ahead_5 fX6_27 sh0 rfl rfl ?_
  refine fl_callV (As := [_]) (q := 11) dX6_ahead_8 gX6_147 rfl sh27 rfl rfl (Nat.le_of_ble_eq_true rfl) rfl (by decide) (c_remember D J P hH T hT hz) (fun res D1 J1 hp => ?_)
  obtain ⟨rfl, rfl, hH1, hf1⟩ := hp
  have hT1 : TabOf D1 3 T := hT.of (hf1 _ (by decide)) (hf1 _ (by decide)) (hf1 _ (by decide)) (hf1 _ (by decide))
  refine fv_aload_n (q := 12) dX6_ahead_11 rfl rfl ?_
  refine fl_getR (q := 15) dX6_ahead_12 fX6_34 sh0 rfl rfl ?_
  refine fv_aload_n (q := 16) dX6_ahead_15 rfl rfl ?_
  refine fl_getR (q := 19) dX6_ahead_16 fX6_27 sh0 rfl rfl ?_
  refine fl_callV (As := [_]) (q := 22) dX6_ahead_19 gX6_172 rfl tab16.sh.1 rfl rfl (Nat.le_of_ble_eq_true rfl) rfl (by decide) (c_copy 16 3 tab16 tab3 (by decide) D1 _ (by rw [hT1.1 5 (by decide)]; exact v.2.2.1)) (fun res2 D2 J2 hp => ?_)
  obtain ⟨rfl, rfl, hC2, hf2⟩ := hp
  have hTt : TabOf D2 16 T := hC2 T hT1
  have hT2 : TabOf D2 3 T := hT1.of (hf2 _ (by decide) (by decide) (by decide) (by decide)) (hf2 _ (by decide) (by decide) (by decide) (by decide)) (hf2 _ (by decide) (by decide) (by decide) (by decide)) (hf2 _ (by decide) (by decide) (by decide) (by decide))
  refine fv_aload_n (q := 23) dX6_ahead_22 rfl rfl ?_
  refine fl_getR (q := 26) dX6_ahead_23 fX6_31 sh0 rfl rfl ?_
  refine fl_callV (As := []) (q := 29) dX6_ahead_26 gX6_155 rfl len14.ord rfl rfl (Nat.le_of_ble_eq_true rfl) rfl (by decide) (c_settle 14 len14 D2 _ T n hTt v) (fun res3 D3 J3 hp => ?_)
  obtain ⟨rfl, rfl, hOt, hf3⟩ := hp
  have hT3 : TabOf D3 3 T := hT2.of (hf3 _ (by decide) (by decide) (by decide) (by decide)) (hf3 _ (by decide) (by decide) (by decide) (by decide)) (hf3 _ (by decide) (by decide) (by decide) (by decide)) (hf3 _ (by decide) (by decide) (by decide) (by decide))
  refine fv_aload_n (q := 30) dX6_ahead_29 rfl rfl ?_
  refine fl_getR (q := 33) dX6_ahead_30 fX6_27 sh0 rfl rfl ?_
  refine fv_iload_n (q := 34) dX6_ahead_33 rfl rfl ?_
  refine fl_putZ (q := 37) dX6_ahead_34 fX6_86 hb.tab.sh.1 rfl rfl rfl hc rfl ?_
  have hT4 : TabOf (up D3 3 8 c) 3 (ahdT T c) := ahd_tab hT3
  have v4 : VT (ahdT T c) n := VT_ahd v hc
  refine fv_aload_n (q := 38) dX6_ahead_37 rfl rfl ?_
  refine fl_getR (q := 41) dX6_ahead_38 fX6_20 sh0 rfl rfl ?_
  refine fl_callV (As := []) (q := 44) dX6_ahead_41 gX6_155 rfl hb.ord rfl rfl (Nat.le_of_ble_eq_true rfl) rfl (by decide) (c_settle 1 len1 _ _ (ahdT T c) n hT4 v4) (fun res5 D5 J5 hp => ?_)
  obtain ⟨rfl, rfl, hO5, hf5⟩ := hp
  have hT5 : TabOf D5 3 (ahdT T c) := hT4.of (hf5 _ (by decide) (by decide) (by decide) (by decide)) (hf5 _ (by decide) (by decide) (by decide) (by decide)) (hf5 _ (by decide) (by decide) (by decide) (by decide)) (hf5 _ (by decide) (by decide) (by decide) (by decide))
  have k5 : ∀ a, a ≠ 3 → (a < 7 ∨ 11 ≤ a) → D5 a = D3 a := fun a g1 g2 => by rw [hf5 a (by omega) (by omega) (by omega) (by omega), up_n _ _ _ g1]
  refine fv_aload_n (q := 45) dX6_ahead_44 rfl rfl ?_
  refine fl_getR (q := 48) dX6_ahead_45 fX6_20 sh0 rfl rfl ?_
  refine fv_aload_n (q := 49) dX6_ahead_48 rfl rfl ?_
  refine fl_getR (q := 52) dX6_ahead_49 fX6_31 sh0 rfl rfl ?_
  refine fl_callVi (As := [_]) (q := 55) dX6_ahead_52 gX6_175 rfl hb.ord rfl rfl (Nat.le_of_ble_eq_true rfl) rfl (by decide) (c_unlikeSpots 1 len1 D5 _ (ahdT T c) n hT5 v4 14 len14) ?_
  refine fv_iret dX6_ahead_55 rfl rfl (Nat.le_refl _) ?_
  have k3 : ∀ a, (a < 16 ∨ 27 ≤ a) → D3 a = D1 a := fun a g => by rw [hf3 a (by omega) (by omega) (by omega) (by omega), hf2 a (by omega) (by omega) (by omega) (by omega)]
  have e9 : nI (fb_ct (fun r => decide (¬ D5 (1 + 7) r = D5 (14 + 7) r)) n) = (f_ahead (T, n, P, I, B, s) c).1 := by
    refine congrArg nI (fb_ct_cong (fun r hr => ?_))
    rw [hO5.2.1 r hr, k5 (14 + 7) (by decide) (by decide), hOt.2.1 r hr, decide_eq_decide, nI_eq (by have := pos_lt (T := ahdT T c) hr; omega) (by have := pos_lt (T := T) hr; omega)]
  rw [e9]
  refine hPost _ _ _ ⟨rfl, ?_, fun a ha => ?_, fun _ _ => rfl⟩
  · exact hX.mk hT5 hO5 (hH1.of (fun a g1 g2 => by rw [k5 a (by omega) (by omega), k3 a (by omega)])) (fun a ha => by rw [k5 a (by omega) (by omega), k3 a (by omega), hf1 a (by omega)])
  · rw [k5 a (by omega) (by omega), k3 a (by omega), hf1 a (by omega)]
set_option maxHeartbeats 4000000 in
set_option maxRecDepth 100000 in
theorem c_undo (D : Nat → Nat → Int32) (J : Nat → Nat → Int64) (σ : Sg) (hX : XR D σ) (ok : SgOk σ) (c : Int32) : FD yX6_undo cX6_undo 2 (some .int) 4 [.ref 0, .int c] D J (fun res D' J' => res = some (.int (f_undo σ c).1) ∧ XR D' (f_undo σ c).2 ∧ KX D D' J J') := by
  refine FD.of (by decide) rfl (Nat.le_of_ble_eq_true rfl) (fun Post hPost => ?_)
  show FV _ _ _ _ _ _ _ _ _ _ _ _ [_, _] [] _
  obtain ⟨T, n, P, I, B, s⟩ := σ
  have hT : TabOf D 3 T := hX.1
  have hO : OrdOf D 1 T n := hX.2.1
  have hH : HisOf D P := hX.2.2.1
  have hI : ImgOf D I := hX.2.2.2.1
  have hB : BookOf D B := hX.2.2.2.2.1
  have hs : D 0 9 = s := hX.2.2.2.2.2
  have v : VT T n := ok.1
  have h40 := v.2.1
  have hn : D 3 3 = nI n := hT.n v
  have hb := len1
  have hHl : D 27 2 = nI P.length := hH.choose_spec.2.2.1
  have okP : ∀ U, U ∈ P → ∃ m, VT U m := ok.2.1
  have hPl : P.length ≤ 20 := ok.2.2.2.1
  refine fv_iload_n (q := 1) dX6_undo_0 rfl rfl ?_
  refine fv_iconst (v := 1) (q := 2) dX6_undo_1 (by decide) rfl ?_
  refine fv_bipush (v := 20) (q := 4) dX6_undo_2 (by decide) rfl ?_
  refine fl_callSi (As := [_, _, _]) (q := 7) dX6_undo_4 gX6_162 rfl rfl (Nat.le_of_ble_eq_true rfl) rfl (by decide) (c_within D J c 1 20) ?_
  refine fv_if_ne (q := 10) 13 dX6_undo_7 (by decide) rfl (fun c7 => ?_) (fun c7 => ?_)
  · rw [bi_n'] at c7
    obtain ⟨m, hm1, hm2, hcm, hcc⟩ := wth_n (a := 1) (b := 20) c7 (by decide) (by decide)
    subst hcm
    refine fv_iload_n (q := 14) dX6_undo_13 rfl rfl ?_
    refine fv_aload_n (q := 15) dX6_undo_14 rfl rfl ?_
    refine fl_getR (q := 18) dX6_undo_15 fX6_40 sh0 rfl rfl ?_
    refine fl_getI (q := 21) dX6_undo_18 fX6_98 sh27 rfl rfl ?_
    refine fv_top hHl ?_
    refine fv_icmp_le (q := 24) 27 dX6_undo_21 (by decide) rfl (fun c21 => ?_) (fun c21 => ?_)
    · rw [nI_leI (by omega) (by omega)] at c21
      obtain ⟨T1, hT1⟩ : ∃ T1, P[m - 1]? = some T1 := ⟨P[m - 1], List.getElem?_eq_getElem (by omega)⟩
      obtain ⟨n1, v1⟩ := okP T1 (List.mem_of_getElem? hT1)
      refine fv_aload_n (q := 28) dX6_undo_27 rfl rfl ?_
      refine fl_getR (q := 31) dX6_undo_28 fX6_40 sh0 rfl rfl ?_
      refine fv_iload_n (q := 32) dX6_undo_31 rfl rfl ?_
      refine fv_aload_n (q := 33) dX6_undo_32 rfl rfl ?_
      refine fl_getR (q := 36) dX6_undo_33 fX6_27 sh0 rfl rfl ?_
      refine fl_callV (As := [_, _]) (q := 39) dX6_undo_36 gX6_183 rfl sh27 rfl rfl (Nat.le_of_ble_eq_true rfl) rfl (by decide) (c_restore D J P hH m hm1 c21 (fun U hU => by obtain ⟨x, hx⟩ := okP U hU; exact hx.2.2.1)) (fun res2 D2 J2 hp => ?_)
      obtain ⟨rfl, rfl, hH2, hC2, hf2⟩ := hp
      have hT2 : TabOf D2 3 T1 := hC2 T1 hT1
      refine fv_aload_n (q := 40) dX6_undo_39 rfl rfl ?_
      refine fl_getR (q := 43) dX6_undo_40 fX6_20 sh0 rfl rfl ?_
      refine fl_callV (As := []) (q := 46) dX6_undo_43 gX6_155 rfl hb.ord rfl rfl (Nat.le_of_ble_eq_true rfl) rfl (by decide) (c_settle 1 len1 D2 _ T1 n1 hT2 v1) (fun res3 D3 J3 hp => ?_)
      obtain ⟨rfl, rfl, hO3, hf3⟩ := hp
      have hT3 : TabOf D3 3 T1 := hT2.of (hf3 _ (by decide) (by decide) (by decide) (by decide)) (hf3 _ (by decide) (by decide) (by decide) (by decide)) (hf3 _ (by decide) (by decide) (by decide) (by decide)) (hf3 _ (by decide) (by decide) (by decide) (by decide))
      refine fv_aload_n (q := 47) dX6_undo_46 rfl rfl ?_
      refine fl_getR (q := 50) dX6_undo_47 fX6_27 sh0 rfl rfl ?_
      refine fl_getI (q := 53) dX6_undo_50 fX6_62 hb.tab.sh.1 rfl rfl ?_
      refine fv_top (hT3.n v1) ?_
      refine fv_iret dX6_undo_53 rfl rfl (Nat.le_refl _) ?_
      have e9 : f_undo (T, n, P, I, B, s) (nI m) = (nI n1, (T1, n1, P.drop m, I, B, s)) := by
        unfold f_undo
        rw [if_neg (by rw [c7]; decide), hcc]
        show (match P[m - 1]? with | none => _ | some T => _) = _
        rw [hT1]
        show (T1 0, (T1, (T1 0).toNatClampNeg, _)) = _
        rw [v1.1, nI_clamp (by have := v1.2.1; omega)]
      refine hPost _ _ _ ⟨by rw [e9], ?_, fun a ha => ?_, fun _ _ => rfl⟩
      · rw [e9]
        exact hX.mk hT3 hO3 (hH2.of (fun a g1 g2 => hf3 a (by omega) (by omega) (by omega) (by omega))) (fun a ha => by rw [hf3 a (by omega) (by omega) (by omega) (by omega), hf2 a (by omega) (by omega) (by omega) (by omega) (by omega)])
      · rw [hf3 a (by omega) (by omega) (by omega) (by omega), hf2 a (by omega) (by omega) (by omega) (by omega) (by omega)]
    · rw [nI_leI (by omega) (by omega)] at c21
      refine fv_ldc (q := 26) dX6_undo_24 kX6_182 rfl ?_
      refine fv_iret dX6_undo_26 rfl rfl (Nat.le_refl _) ?_
      have e9 : f_undo (T, n, P, I, B, s) (nI m) = (-1000000003, (T, n, P, I, B, s)) := by unfold f_undo; rw [if_neg (by rw [c7]; decide), hcc]; show (match P[m - 1]? with | none => _ | some T => _) = _; rw [List.getElem?_eq_none (by omega)]
      exact hPost _ _ _ ⟨by rw [e9], by rw [e9]; exact hX, KX.rf⟩
  · rw [bi_0] at c7
    refine fv_ldc (q := 12) dX6_undo_10 kX6_99 rfl ?_
    refine fv_iret dX6_undo_12 rfl rfl (Nat.le_refl _) ?_
    have e9 : f_undo (T, n, P, I, B, s) c = (-1000000002, (T, n, P, I, B, s)) := by unfold f_undo; rw [if_pos c7]
    exact hPost _ _ _ ⟨by rw [e9], by rw [e9]; exact hX, KX.rf⟩
set_option maxHeartbeats 4000000 in
set_option maxRecDepth 100000 in
theorem c_keep (D : Nat → Nat → Int32) (J : Nat → Nat → Int64) (σ : Sg) (hX : XR D σ) (ok : SgOk σ) (i : Int32) : FD yX6_keep cX6_keep 2 (some .int) 2 [.ref 0, .int i] D J (fun res D' J' => res = some (.int (f_keep σ i).1) ∧ XR D' (f_keep σ i).2 ∧ KX D D' J J') := by
  refine FD.of (by decide) rfl (Nat.le_of_ble_eq_true rfl) (fun Post hPost => ?_)
  show FV _ _ _ _ _ _ _ _ _ _ _ _ [_, _] [] _
  obtain ⟨T, n, P, I, B, s⟩ := σ
  have hT : TabOf D 3 T := hX.1
  have hO : OrdOf D 1 T n := hX.2.1
  have hH : HisOf D P := hX.2.2.1
  have hI : ImgOf D I := hX.2.2.2.1
  have hB : BookOf D B := hX.2.2.2.2.1
  have hs : D 0 9 = s := hX.2.2.2.2.2
  have v : VT T n := ok.1
  have h40 := v.2.1
  have hn : D 3 3 = nI n := hT.n v
  have hb := len1
  have hz : D 3 8 = 0 ∨ D 3 8 = 1 := by rw [hT.1 5 (by decide)]; exact v.2.2.1
  refine fv_iload_n (q := 1) dX6_keep_0 rfl rfl ?_
  refine fv_iconst (v := 0) (q := 2) dX6_keep_1 (by decide) rfl ?_
  refine fv_iconst (v := 1) (q := 3) dX6_keep_2 (by decide) rfl ?_
  refine fl_callSi (As := [_, _, _]) (q := 6) dX6_keep_3 gX6_162 rfl rfl (Nat.le_of_ble_eq_true rfl) rfl (by decide) (c_within D J i 0 1) ?_
  refine fv_if_ne (q := 9) 12 dX6_keep_6 (by decide) rfl (fun c6 => ?_) (fun c6 => ?_)
  · rw [bi_n'] at c6
    obtain ⟨m, hm1, hm2, him, hic⟩ := wth_n (a := 0) (b := 1) c6 (by decide) (by decide)
    subst him
    have hm : m < 2 := by omega
    refine fv_aload_n (q := 13) dX6_keep_12 rfl rfl ?_
    refine fl_getR (q := 16) dX6_keep_13 fX6_53 sh0 rfl rfl ?_
    refine fv_iload_n (q := 17) dX6_keep_16 rfl rfl ?_
    refine fl_aald4 (q := 18) m dX6_keep_17 sh113 (by decide) rfl hm rfl ?_
    refine fl_getR (q := 21) dX6_keep_18 fX6_217 (shI hm) rfl rfl ?_
    refine fv_aload_n (q := 22) dX6_keep_21 rfl rfl ?_
    refine fl_getR (q := 25) dX6_keep_22 fX6_27 sh0 rfl rfl ?_
    refine fl_callV (As := [_]) (q := 28) dX6_keep_25 gX6_172 rfl (tabI hm).sh.1 rfl rfl (Nat.le_of_ble_eq_true rfl) rfl (by decide) (c_copy (114 + 5 * m + 1) 3 (tabI hm) tab3 (by omega) D J hz) (fun res D1 J1 hp => ?_)
    obtain ⟨rfl, rfl, hC, hf1⟩ := hp
    have hTm : TabOf D1 (114 + 5 * m + 1) T := hC T hT
    refine fv_aload_n (q := 29) dX6_keep_28 rfl rfl ?_
    refine fl_getR (q := 32) dX6_keep_29 fX6_53 sh0 rfl rfl ?_
    refine fv_iload_n (q := 33) dX6_keep_32 rfl rfl ?_
    refine fl_aald4 (q := 34) m dX6_keep_33 sh113 (by decide) rfl hm rfl ?_
    refine fv_aload_n (q := 35) dX6_keep_34 rfl rfl ?_
    refine fl_getI (q := 38) dX6_keep_35 fX6_58 sh0 rfl rfl ?_
    refine fv_top (y := s) (by rw [hf1 _ (by omega) (by omega) (by omega) (by omega)]; exact hs) ?_
    refine fl_putI (q := 41) dX6_keep_38 fX6_218 (shI hm) rfl rfl rfl rfl ?_
    refine fv_aload_n (q := 42) dX6_keep_41 rfl rfl ?_
    refine fl_getR (q := 45) dX6_keep_42 fX6_53 sh0 rfl rfl ?_
    refine fv_iload_n (q := 46) dX6_keep_45 rfl rfl ?_
    refine fl_aald4 (q := 47) m dX6_keep_46 sh113 (by decide) rfl hm rfl ?_
    refine fv_iconst (v := 1) (q := 48) dX6_keep_47 (by decide) rfl ?_
    refine fl_putZ (q := 51) dX6_keep_48 fX6_219 (shI hm) rfl rfl rfl (Or.inr rfl) rfl ?_
    refine fv_aload_n (q := 52) dX6_keep_51 rfl rfl ?_
    refine fl_getR (q := 55) dX6_keep_52 fX6_40 sh0 rfl rfl ?_
    refine fl_callV (As := []) (q := 58) dX6_keep_55 gX6_222 rfl sh27 rfl rfl (Nat.le_of_ble_eq_true rfl) rfl (by decide) (c_forget _ _) (fun res2 D2 J2 hp => ?_)
    obtain ⟨rfl, rfl, hD2⟩ := hp
    refine fv_iconst (v := 1) (q := 59) dX6_keep_58 (by decide) rfl ?_
    refine fv_iret dX6_keep_59 rfl rfl (Nat.le_refl _) ?_
    have e9 : f_keep (T, n, P, I, B, s) (nI m) = (1, (T, n, [], (fun j => if j = m then some (T, s) else I j), B, s)) := by unfold f_keep; rw [if_neg (by rw [c6]; decide), hic]
    have hf2 : ∀ a, a ≠ 27 → a ≠ 114 + 5 * m → a ≠ 114 + 5 * m + 1 → a ≠ 114 + 5 * m + 2 → a ≠ 114 + 5 * m + 3 → a ≠ 114 + 5 * m + 4 → D2 a = D a := fun a g0 g1 g2 g3 g4 g5 => by rw [hD2, up_n _ _ _ g0, up_n _ _ _ g1, up_n _ _ _ g1]; exact hf1 a g2 (by omega) (by omega) (by omega)
    refine hPost _ _ _ ⟨by rw [e9], ?_, fun a ha => hf2 a (by omega) (by omega) (by omega) (by omega) (by omega) (by omega), fun _ _ => rfl⟩
    rw [e9]
    refine ⟨hT.of (hf2 _ (by omega) (by omega) (by omega) (by omega) (by omega) (by omega)) (hf2 _ (by omega) (by omega) (by omega) (by omega) (by omega) (by omega)) (hf2 _ (by omega) (by omega) (by omega) (by omega) (by omega) (by omega)) (hf2 _ (by omega) (by omega) (by omega) (by omega) (by omega) (by omega)), hO.of (hf2 _ (by omega) (by omega) (by omega) (by omega) (by omega) (by omega)) (hf2 _ (by omega) (by omega) (by omega) (by omega) (by omega) (by omega)) (hf2 _ (by omega) (by omega) (by omega) (by omega) (by omega) (by omega)) (hf2 _ (by omega) (by omega) (by omega) (by omega) (by omega) (by omega)), ?_, fun k hk => ?_, hB.of (hf2 _ (by omega) (by omega) (by omega) (by omega) (by omega) (by omega)) (hf2 _ (by omega) (by omega) (by omega) (by omega) (by omega) (by omega)) (hf2 _ (by omega) (by omega) (by omega) (by omega) (by omega) (by omega)) (hf2 _ (by omega) (by omega) (by omega) (by omega) (by omega) (by omega)), by rw [hf2 _ (by omega) (by omega) (by omega) (by omega) (by omega) (by omega)]; exact hs⟩
    · rw [hD2]
      refine his_0 (P := P) (hH.of (fun a g1 g2 => ?_))
      rw [up_n _ _ _ (by omega), up_n _ _ _ (by omega), hf1 a (by omega) (by omega) (by omega) (by omega)]
    · by_cases hkm : k = m
      · subst hkm
        refine ⟨fun z => by simp at z, fun q hq => ?_⟩
        have hq : some (T, s) = some q := by simpa using hq
        cases hq
        have hu : ∀ a, a ≠ 27 → a ≠ 114 + 5 * k → D2 a = D1 a := fun a g0 g1 => by rw [hD2, up_n _ _ _ g0, up_n _ _ _ g1, up_n _ _ _ g1]
        refine ⟨by rw [hD2, up_n _ _ _ (by omega), up_s, pk_us], hTm.of (hu _ (by omega) (by omega)) (hu _ (by omega) (by omega)) (hu _ (by omega) (by omega)) (hu _ (by omega) (by omega)), by rw [hD2, up_n _ _ _ (by omega), up_s, pk_un (by decide), up_s, pk_us]⟩
      · have hik := hI k hk
        have e8 : (if k = m then some (T, s) else I k) = I k := if_neg hkm
        show ((if k = m then some (T, s) else I k) = none → _) ∧ ∀ q, (if k = m then some (T, s) else I k) = some q → _
        rw [e8, hf2 (114 + 5 * k) (by omega) (by omega) (by omega) (by omega) (by omega) (by omega)]
        exact ⟨hik.1, fun q hq => ⟨(hik.2 q hq).1, (hik.2 q hq).2.1.of (hf2 _ (by omega) (by omega) (by omega) (by omega) (by omega) (by omega)) (hf2 _ (by omega) (by omega) (by omega) (by omega) (by omega) (by omega)) (hf2 _ (by omega) (by omega) (by omega) (by omega) (by omega) (by omega)) (hf2 _ (by omega) (by omega) (by omega) (by omega) (by omega) (by omega)), (hik.2 q hq).2.2⟩⟩
  · rw [bi_0] at c6
    refine fv_ldc (q := 11) dX6_keep_9 kX6_104 rfl ?_
    refine fv_iret dX6_keep_11 rfl rfl (Nat.le_refl _) ?_
    have e9 : f_keep (T, n, P, I, B, s) i = (-1000000001, (T, n, P, I, B, s)) := by unfold f_keep; rw [if_pos c6]
    exact hPost _ _ _ ⟨by rw [e9], by rw [e9]; exact hX, KX.rf⟩
set_option maxHeartbeats 4000000 in
set_option maxRecDepth 100000 in
theorem c_goBack (D : Nat → Nat → Int32) (J : Nat → Nat → Int64) (σ : Sg) (hX : XR D σ) (ok : SgOk σ) (i : Int32) : FD yX6_goBack cX6_goBack 2 (some .int) 4 [.ref 0, .int i] D J (fun res D' J' => res = some (.int (f_goBack σ i).1) ∧ XR D' (f_goBack σ i).2 ∧ KX D D' J J') := by
  refine FD.of (by decide) rfl (Nat.le_of_ble_eq_true rfl) (fun Post hPost => ?_)
  show FV _ _ _ _ _ _ _ _ _ _ _ _ [_, _] [] _
  obtain ⟨T, n, P, I, B, s⟩ := σ
  have hT : TabOf D 3 T := hX.1
  have hO : OrdOf D 1 T n := hX.2.1
  have hH : HisOf D P := hX.2.2.1
  have hI : ImgOf D I := hX.2.2.2.1
  have hB : BookOf D B := hX.2.2.2.2.1
  have hs : D 0 9 = s := hX.2.2.2.2.2
  have v : VT T n := ok.1
  have h40 := v.2.1
  have hn : D 3 3 = nI n := hT.n v
  have hb := len1
  have okI : ∀ i q, i < 2 → I i = some q → (∃ m, VT q.1 m) ∧ 0 ≤ q.2.toInt := ok.2.2.1
  refine fv_iload_n (q := 1) dX6_goBack_0 rfl rfl ?_
  refine fv_iconst (v := 0) (q := 2) dX6_goBack_1 (by decide) rfl ?_
  refine fv_iconst (v := 1) (q := 3) dX6_goBack_2 (by decide) rfl ?_
  refine fl_callSi (As := [_, _, _]) (q := 6) dX6_goBack_3 gX6_162 rfl rfl (Nat.le_of_ble_eq_true rfl) rfl (by decide) (c_within D J i 0 1) ?_
  refine fv_if_ne (q := 9) 12 dX6_goBack_6 (by decide) rfl (fun c6 => ?_) (fun c6 => ?_)
  · rw [bi_n'] at c6
    obtain ⟨m, hm1, hm2, him, hic⟩ := wth_n (a := 0) (b := 1) c6 (by decide) (by decide)
    subst him
    have hm : m < 2 := by omega
    have hIm := hI m hm
    refine fv_aload_n (q := 13) dX6_goBack_12 rfl rfl ?_
    refine fl_getR (q := 16) dX6_goBack_13 fX6_53 sh0 rfl rfl ?_
    refine fv_iload_n (q := 17) dX6_goBack_16 rfl rfl ?_
    refine fl_aald4 (q := 18) m dX6_goBack_17 sh113 (by decide) rfl hm rfl ?_
    refine fl_getI (q := 21) dX6_goBack_18 fX6_219 (shI hm) rfl rfl ?_
    refine fv_if_ne (q := 24) 27 dX6_goBack_21 (by decide) rfl (fun c21 => ?_) (fun c21 => ?_)
    · obtain ⟨⟨T1, s1⟩, hq⟩ : ∃ q, I m = some q := by
        cases hq : I m with
        | none => exact absurd (hIm.1 hq) c21
        | some q => exact ⟨q, rfl⟩
      obtain ⟨q1, q2, q3⟩ := hIm.2 _ hq
      have q2 : TabOf D (114 + 5 * m + 1) T1 := q2
      have q3 : D (114 + 5 * m) 1 = s1 := q3
      obtain ⟨⟨n1, v1⟩, hs1⟩ := okI m _ hm hq
      have v1 : VT T1 n1 := v1
      refine fv_aload_n (q := 28) dX6_goBack_27 rfl rfl ?_
      refine fl_getR (q := 31) dX6_goBack_28 fX6_27 sh0 rfl rfl ?_
      refine fv_aload_n (q := 32) dX6_goBack_31 rfl rfl ?_
      refine fl_getR (q := 35) dX6_goBack_32 fX6_53 sh0 rfl rfl ?_
      refine fv_iload_n (q := 36) dX6_goBack_35 rfl rfl ?_
      refine fl_aald4 (q := 37) m dX6_goBack_36 sh113 (by decide) rfl hm rfl ?_
      refine fl_getR (q := 40) dX6_goBack_37 fX6_217 (shI hm) rfl rfl ?_
      refine fl_callV (As := [_]) (q := 43) dX6_goBack_40 gX6_172 rfl tab3.sh.1 rfl rfl (Nat.le_of_ble_eq_true rfl) rfl (by decide) (c_copy 3 (114 + 5 * m + 1) tab3 (tabI hm) (by omega) D J (by rw [q2.1 5 (by decide)]; exact v1.2.2.1)) (fun res D1 J1 hp => ?_)
      obtain ⟨rfl, rfl, hC, hf1⟩ := hp
      have hT1 : TabOf D1 3 T1 := hC T1 q2
      refine fv_aload_n (q := 44) dX6_goBack_43 rfl rfl ?_
      refine fv_aload_n (q := 45) dX6_goBack_44 rfl rfl ?_
      refine fl_getR (q := 48) dX6_goBack_45 fX6_53 sh0 rfl rfl ?_
      refine fv_iload_n (q := 49) dX6_goBack_48 rfl rfl ?_
      refine fl_aald4 (q := 50) m dX6_goBack_49 sh113 (by decide) rfl hm rfl ?_
      refine fl_getI (q := 53) dX6_goBack_50 fX6_218 (shI hm) rfl rfl ?_
      refine fv_top (y := s1) (by rw [hf1 _ (by omega) (by omega) (by omega) (by omega)]; exact q3) ?_
      refine fl_putI (q := 56) dX6_goBack_53 fX6_58 sh0 rfl rfl rfl rfl ?_
      refine fv_aload_n (q := 57) dX6_goBack_56 rfl rfl ?_
      refine fl_getR (q := 60) dX6_goBack_57 fX6_40 sh0 rfl rfl ?_
      refine fl_callV (As := []) (q := 63) dX6_goBack_60 gX6_222 rfl sh27 rfl rfl (Nat.le_of_ble_eq_true rfl) rfl (by decide) (c_forget _ _) (fun res2 D2 J2 hp => ?_)
      obtain ⟨rfl, rfl, hD2⟩ := hp
      have hf2 : ∀ a, a ≠ 0 → a ≠ 27 → D2 a = D1 a := fun a g0 g1 => by rw [hD2, up_n _ _ _ g1, up_n _ _ _ g0]
      have hT2 : TabOf D2 3 T1 := hT1.of (hf2 _ (by decide) (by decide)) (hf2 _ (by decide) (by decide)) (hf2 _ (by decide) (by decide)) (hf2 _ (by decide) (by decide))
      refine fv_aload_n (q := 64) dX6_goBack_63 rfl rfl ?_
      refine fl_getR (q := 67) dX6_goBack_64 fX6_20 sh0 rfl rfl ?_
      refine fl_callV (As := []) (q := 70) dX6_goBack_67 gX6_155 rfl hb.ord rfl rfl (Nat.le_of_ble_eq_true rfl) rfl (by decide) (c_settle 1 len1 D2 _ T1 n1 hT2 v1) (fun res3 D3 J3 hp => ?_)
      obtain ⟨rfl, rfl, hO3, hf3⟩ := hp
      have hT3 : TabOf D3 3 T1 := hT2.of (hf3 _ (by decide) (by decide) (by decide) (by decide)) (hf3 _ (by decide) (by decide) (by decide) (by decide)) (hf3 _ (by decide) (by decide) (by decide) (by decide)) (hf3 _ (by decide) (by decide) (by decide) (by decide))
      refine fv_iconst (v := 1) (q := 71) dX6_goBack_70 (by decide) rfl ?_
      refine fv_iret dX6_goBack_71 rfl rfl (Nat.le_refl _) ?_
      have e9 : f_goBack (T, n, P, I, B, s) (nI m) = (1, (T1, n1, [], I, B, s1)) := by
        unfold f_goBack
        rw [if_neg (by rw [c6]; decide), hic]
        show (match I m with | none => _ | some q => _) = _
        rw [hq]
        show (1, (T1, (T1 0).toNatClampNeg, _)) = _
        rw [v1.1, nI_clamp (by have := v1.2.1; omega)]
      have k3 : ∀ a, a ≠ 0 → a ≠ 27 → (a < 3 ∨ 11 ≤ a) → D3 a = D a := fun a g0 g1 g2 => by rw [hf3 a (by omega) (by omega) (by omega) (by omega), hf2 a g0 g1, hf1 a (by omega) (by omega) (by omega) (by omega)]
      refine hPost _ _ _ ⟨by rw [e9], ?_, fun a ha => k3 a (by omega) (by omega) (by omega), fun _ _ => rfl⟩
      rw [e9]
      refine ⟨hT3, hO3, ?_, hI.of (fun a g1 g2 => k3 a (by omega) (by omega) (by omega)), hB.of (k3 _ (by omega) (by omega) (by omega)) (k3 _ (by omega) (by omega) (by omega)) (k3 _ (by omega) (by omega) (by omega)) (k3 _ (by omega) (by omega) (by omega)), ?_⟩
      · refine HisOf.of (D := D2) ?_ (fun a g1 g2 => hf3 a (by omega) (by omega) (by omega) (by omega))
        rw [hD2]
        refine his_0 (P := P) (hH.of (fun a g1 g2 => ?_))
        rw [up_n _ _ _ (by omega), hf1 a (by omega) (by omega) (by omega) (by omega)]
      · rw [hf3 0 (by omega) (by omega) (by omega) (by omega), hD2, up_n _ _ _ (by decide), up_s, pk_us]
    · have hq : I m = none := by
        cases hq : I m with
        | none => rfl
        | some q => exact absurd ((hIm.2 q hq).1.symm.trans c21) (by decide)
      refine fv_ldc (q := 26) dX6_goBack_24 kX6_182 rfl ?_
      refine fv_iret dX6_goBack_26 rfl rfl (Nat.le_refl _) ?_
      have e9 : f_goBack (T, n, P, I, B, s) (nI m) = (-1000000003, (T, n, P, I, B, s)) := by unfold f_goBack; rw [if_neg (by rw [c6]; decide), hic]; show (match I m with | none => _ | some q => _) = _; rw [hq]
      exact hPost _ _ _ ⟨by rw [e9], by rw [e9]; exact hX, KX.rf⟩
  · rw [bi_0] at c6
    refine fv_ldc (q := 11) dX6_goBack_9 kX6_104 rfl ?_
    refine fv_iret dX6_goBack_11 rfl rfl (Nat.le_refl _) ?_
    have e9 : f_goBack (T, n, P, I, B, s) i = (-1000000001, (T, n, P, I, B, s)) := by unfold f_goBack; rw [if_pos c6]
    exact hPost _ _ _ ⟨by rw [e9], by rw [e9]; exact hX, KX.rf⟩
