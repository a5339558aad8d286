theorem KX.rf {D : Nat → Nat → Int32} {J : Nat → Nat → Int64} : KX D D J J := ⟨fun _ _ => rfl, fun _ _ => rfl⟩
theorem KX.of {D D' : Nat → Nat → Int32} {J : Nat → Nat → Int64} (h : ∀ a, a ≠ 1 → a ≠ 1 + 10 → a ≠ 1 + 11 → D' a = D a) : KX D D' J J := ⟨fun a ha => h a (by omega) (by omega) (by omega), fun _ _ => rfl⟩
theorem XR.len {D D' : Nat → Nat → Int32} {σ : Sg} (h : XR D σ) (h0 : ∀ a, a ≠ 1 → a ≠ 1 + 10 → a ≠ 1 + 11 → D' a = D a) : XR D' σ := h.of (fun a g1 g2 g3 _ _ => h0 a g1 (by omega) (by omega))
set_option maxHeartbeats 4000000 in
set_option maxRecDepth 100000 in
theorem c_standing (D : Nat → Nat → Int32) (J : Nat → Nat → Int64) (σ : Sg) (hX : XR D σ) (ok : SgOk σ) (k : Int32) : FD yX6_standing cX6_standing 2 (some .int) 1 [.ref 0, .int k] D J (fun res D' J' => res = some (.int (f_standing σ k)) ∧ XR D' σ ∧ KX D D' J J') := by
  refine FD.of (by decide) rfl (Nat.le_of_ble_eq_true rfl) (fun Post hPost => ?_)
  show FV _ _ _ _ _ _ _ _ _ _ _ _ [_, _] [] _
  obtain ⟨T, n, P, I, B, s⟩ := σ
  have hT : TabOf D 3 T := hX.1
  have hO : OrdOf D 1 T n := hX.2.1
  have hH : HisOf D P := hX.2.2.1
  have hI : ImgOf D I := hX.2.2.2.1
  have hB : BookOf D B := hX.2.2.2.2.1
  have hs : D 0 9 = s := hX.2.2.2.2.2
  have v : VT T n := ok.1
  have h40 := v.2.1
  have hn : D 3 3 = nI n := hT.n v
  have hb := len1
  refine fv_aload_n (q := 1) dX6_standing_0 rfl rfl ?_
  refine fl_getR (q := 4) dX6_standing_1 fX6_20 sh0 rfl rfl ?_
  refine fv_iload_n (q := 5) dX6_standing_4 rfl rfl ?_
  by_cases hk : okr n k = false
  · refine fl_callVi (As := [_]) (q := 8) dX6_standing_5 gX6_134 rfl hb.ord rfl rfl (Nat.le_of_ble_eq_true rfl) rfl (by decide) (c_atO 1 hb D J n hn k (okr_f hk)) ?_
    refine fv_iret dX6_standing_8 rfl rfl (Nat.le_refl _) ?_
    exact hPost _ _ _ ⟨by unfold f_standing; rw [if_pos hk], hX, KX.rf⟩
  · obtain ⟨j, hj, rfl, hjc⟩ := okr_t (by simpa using hk) h40
    refine fl_callVi (As := [_]) (q := 8) dX6_standing_5 gX6_134 rfl hb.ord rfl rfl (Nat.le_of_ble_eq_true rfl) rfl (by decide) (c_atI 1 hb D J n j hn h40 hj) ?_
    refine fv_iret dX6_standing_8 rfl rfl (Nat.le_refl _) ?_
    exact hPost _ _ _ ⟨by unfold f_standing; rw [if_neg hk, hjc, hO.1 j hj], hX, KX.rf⟩
set_option maxHeartbeats 4000000 in
set_option maxRecDepth 100000 in
theorem c_of (D : Nat → Nat → Int32) (J : Nat → Nat → Int64) (σ : Sg) (hX : XR D σ) (ok : SgOk σ) (r w : Int32) : FD yX6_of cX6_of 3 (some .int) 5 [.ref 0, .int r, .int w] D J (fun res D' J' => res = some (.int (f_of σ r w)) ∧ XR D' σ ∧ KX D D' J J') := by
  refine FD.of (by decide) rfl (Nat.le_of_ble_eq_true rfl) (fun Post hPost => ?_)
  show FV _ _ _ _ _ _ _ _ _ _ _ _ [_, _, _] [] _
  obtain ⟨T, n, P, I, B, s⟩ := σ
  have hT : TabOf D 3 T := hX.1
  have hO : OrdOf D 1 T n := hX.2.1
  have hH : HisOf D P := hX.2.2.1
  have hI : ImgOf D I := hX.2.2.2.1
  have hB : BookOf D B := hX.2.2.2.2.1
  have hs : D 0 9 = s := hX.2.2.2.2.2
  have v : VT T n := ok.1
  have h40 := v.2.1
  have hn : D 3 3 = nI n := hT.n v
  have hb := len1
  refine fv_aload_n (q := 1) dX6_of_0 rfl rfl ?_
  refine fl_getR (q := 4) dX6_of_1 fX6_27 sh0 rfl rfl ?_
  refine fv_iload_n (q := 5) dX6_of_4 rfl rfl ?_
  refine fl_callVi (As := [_]) (q := 8) dX6_of_5 gX6_100 rfl hb.tab.sh.1 rfl rfl (Nat.le_of_ble_eq_true rfl) rfl (by decide) (c_has 3 tab3 r D J) ?_
  refine fv_top (y := bi (okr n r)) (by rw [hn]; rfl) ?_
  refine fv_if_ne (q := 11) 14 dX6_of_8 (by decide) rfl (fun c8 => ?_) (fun c8 => ?_)
  · rw [bi_n'] at c8
    obtain ⟨j, hj, hrj, hjc⟩ := okr_t c8 h40
    refine fv_iload_n (q := 15) dX6_of_14 rfl rfl ?_
    refine fl_callSi (As := [_]) (q := 18) dX6_of_15 gX6_187 rfl rfl (Nat.le_of_ble_eq_true rfl) rfl (by decide) (c_isOfFrame D J w) ?_
    refine fv_if_ne (q := 21) 24 dX6_of_18 (by decide) rfl (fun c18 => ?_) (fun c18 => ?_)
    · rw [bi_n'] at c18
      refine fv_aload_n (q := 25) dX6_of_24 rfl rfl ?_
      refine fl_getR (q := 28) dX6_of_25 fX6_10 sh0 rfl rfl ?_
      refine fv_iload_n (q := 29) dX6_of_28 rfl rfl ?_
      refine fv_iload_n (q := 30) dX6_of_29 rfl rfl ?_
      subst hrj
      refine fl_callV (As := [_, _]) (q := 33) dX6_of_30 gX6_190 rfl hb.len rfl rfl (Nat.le_of_ble_eq_true rfl) rfl (by decide) (c_answer 1 len1 D J T n hT v hO j hj w) (fun res D1 J1 hp => ?_)
      obtain ⟨rfl, rfl, hf⟩ := hp
      refine fv_iret dX6_of_33 rfl rfl (Nat.le_refl _) ?_
      exact hPost _ _ _ ⟨by unfold f_of; rw [if_neg (by rw [c8]; decide), if_neg (by rw [c18]; decide), hjc], hX.len hf, KX.of hf⟩
    · rw [bi_0] at c18
      refine fv_ldc (q := 23) dX6_of_21 kX6_99 rfl ?_
      refine fv_iret dX6_of_23 rfl rfl (Nat.le_refl _) ?_
      exact hPost _ _ _ ⟨by unfold f_of; rw [if_neg (by rw [c8]; decide), if_pos c18], hX, KX.rf⟩
  · rw [bi_0] at c8
    refine fv_ldc (q := 13) dX6_of_11 kX6_104 rfl ?_
    refine fv_iret dX6_of_13 rfl rfl (Nat.le_refl _) ?_
    exact hPost _ _ _ ⟨by unfold f_of; rw [if_pos c8], hX, KX.rf⟩
set_option maxHeartbeats 4000000 in
set_option maxRecDepth 100000 in
theorem c_rows (D : Nat → Nat → Int32) (J : Nat → Nat → Int64) (σ : Sg) (hX : XR D σ) (ok : SgOk σ) (r : Int32) : FD yX6_rows cX6_rows 2 (some .long) 5 [.ref 0, .int r] D J (fun res D' J' => res = some (.long (f_rows σ r)) ∧ XR D' σ ∧ KX D D' J J') := by
  refine FD.of (by decide) rfl (Nat.le_of_ble_eq_true rfl) (fun Post hPost => ?_)
  show FV _ _ _ _ _ _ _ _ _ _ _ _ [_, _] [] _
  obtain ⟨T, n, P, I, B, s⟩ := σ
  have hT : TabOf D 3 T := hX.1
  have hO : OrdOf D 1 T n := hX.2.1
  have hH : HisOf D P := hX.2.2.1
  have hI : ImgOf D I := hX.2.2.2.1
  have hB : BookOf D B := hX.2.2.2.2.1
  have hs : D 0 9 = s := hX.2.2.2.2.2
  have v : VT T n := ok.1
  have h40 := v.2.1
  have hn : D 3 3 = nI n := hT.n v
  have hb := len1
  refine fv_aload_n (q := 1) dX6_rows_0 rfl rfl ?_
  refine fl_getR (q := 4) dX6_rows_1 fX6_10 sh0 rfl rfl ?_
  refine fv_iload_n (q := 5) dX6_rows_4 rfl rfl ?_
  by_cases hk : okr n r = false
  · refine fl_callV (As := [_]) (q := 8) dX6_rows_5 gX6_194 rfl hb.len rfl rfl (Nat.le_of_ble_eq_true rfl) rfl (by decide) (c_setO 1 hb D J n hn r (okr_f hk)) (fun res D1 J1 hp => ?_)
    obtain ⟨rfl, rfl, hf⟩ := hp
    refine fv_lret dX6_rows_8 rfl rfl (Nat.le_refl _) ?_
    exact hPost _ _ _ ⟨by unfold f_rows; rw [if_pos hk], hX.len (fun a g _ _ => hf a g), KX.of (fun a g _ _ => hf a g)⟩
  · obtain ⟨j, hj, rfl, hjc⟩ := okr_t (by simpa using hk) h40
    refine fl_callV (As := [_]) (q := 8) dX6_rows_5 gX6_194 rfl hb.len rfl rfl (Nat.le_of_ble_eq_true rfl) rfl (by decide) (c_set 1 hb D J T n hT v hO j hj) (fun res D1 J1 hp => ?_)
    obtain ⟨rfl, rfl, hf⟩ := hp
    refine fv_lret dX6_rows_8 rfl rfl (Nat.le_refl _) ?_
    exact hPost _ _ _ ⟨by unfold f_rows; rw [if_neg hk, hjc], hX.len hf, KX.of hf⟩
set_option maxHeartbeats 4000000 in
set_option maxRecDepth 100000 in
theorem c_inFrame (D : Nat → Nat → Int32) (J : Nat → Nat → Int64) (σ : Sg) (hX : XR D σ) (ok : SgOk σ) (r k : Int32) : FD yX6_inFrame cX6_inFrame 3 (some .int) 5 [.ref 0, .int r, .int k] D J (fun res D' J' => res = some (.int (f_inFrame σ r k)) ∧ XR D' σ ∧ KX D D' J J') := by
  refine FD.of (by decide) rfl (Nat.le_of_ble_eq_true rfl) (fun Post hPost => ?_)
  show FV _ _ _ _ _ _ _ _ _ _ _ _ [_, _, _] [] _
  obtain ⟨T, n, P, I, B, s⟩ := σ
  have hT : TabOf D 3 T := hX.1
  have hO : OrdOf D 1 T n := hX.2.1
  have hH : HisOf D P := hX.2.2.1
  have hI : ImgOf D I := hX.2.2.2.1
  have hB : BookOf D B := hX.2.2.2.2.1
  have hs : D 0 9 = s := hX.2.2.2.2.2
  have v : VT T n := ok.1
  have h40 := v.2.1
  have hn : D 3 3 = nI n := hT.n v
  have hb := len1
  refine fv_aload_n (q := 1) dX6_inFrame_0 rfl rfl ?_
  refine fl_getR (q := 4) dX6_inFrame_1 fX6_27 sh0 rfl rfl ?_
  refine fv_iload_n (q := 5) dX6_inFrame_4 rfl rfl ?_
  refine fl_callVi (As := [_]) (q := 8) dX6_inFrame_5 gX6_100 rfl hb.tab.sh.1 rfl rfl (Nat.le_of_ble_eq_true rfl) rfl (by decide) (c_has 3 tab3 r D J) ?_
  refine fv_top (y := bi (okr n r)) (by rw [hn]; rfl) ?_
  refine fv_if_ne (q := 11) 14 dX6_inFrame_8 (by decide) rfl (fun c8 => ?_) (fun c8 => ?_)
  · rw [bi_n'] at c8
    obtain ⟨j, hj, hrj, hjc⟩ := okr_t c8 h40
    refine fv_aload_n (q := 15) dX6_inFrame_14 rfl rfl ?_
    refine fl_getR (q := 18) dX6_inFrame_15 fX6_10 sh0 rfl rfl ?_
    refine fv_iload_n (q := 19) dX6_inFrame_18 rfl rfl ?_
    refine fv_iload_n (q := 20) dX6_inFrame_19 rfl rfl ?_
    subst hrj
    refine fl_callV (As := [_, _]) (q := 23) dX6_inFrame_20 gX6_198 rfl hb.len rfl rfl (Nat.le_of_ble_eq_true rfl) rfl (by decide) (c_rowAt 1 len1 D J T n hT v hO j hj k) (fun res D1 J1 hp => ?_)
    obtain ⟨rfl, rfl, hf⟩ := hp
    refine fv_iret dX6_inFrame_23 rfl rfl (Nat.le_refl _) ?_
    exact hPost _ _ _ ⟨by unfold f_inFrame; rw [if_neg (by rw [c8]; decide), hjc], hX.len hf, KX.of hf⟩
  · rw [bi_0] at c8
    refine fv_ldc (q := 13) dX6_inFrame_11 kX6_104 rfl ?_
    refine fv_iret dX6_inFrame_13 rfl rfl (Nat.le_refl _) ?_
    exact hPost _ _ _ ⟨by unfold f_inFrame; rw [if_pos c8], hX, KX.rf⟩
theorem wth_n {k : Int32} {a b : Nat} (h : wth k (nI a) (nI b) = true) (ha : a < 2 ^ 31) (hb : b < 2 ^ 31) : ∃ j, a ≤ j ∧ j ≤ b ∧ k = nI j ∧ k.toNatClampNeg = j := by
  rw [wth_i, nI_toInt ha, nI_toInt hb] at h
  obtain ⟨j, h1, rfl⟩ := nI_of (x := k) (fun z => by rw [fa_lt] at z; have : (0 : Int32).toInt = 0 := by decide
                                                     omega)
  rw [nI_toInt h1] at h
  exact ⟨j, by omega, by omega, rfl, nI_clamp h1⟩
set_option maxHeartbeats 4000000 in
set_option maxRecDepth 100000 in
theorem c_heap (D : Nat → Nat → Int32) (J : Nat → Nat → Int64) (σ : Sg) (hX : XR D σ) (ok : SgOk σ) (r k : Int32) : FD yX6_heap cX6_heap 3 (some .int) 1 [.ref 0, .int r, .int k] D J (fun res D' J' => res = some (.int (f_heap σ r k)) ∧ XR D' σ ∧ KX D D' J J') := by
  refine FD.of (by decide) rfl (Nat.le_of_ble_eq_true rfl) (fun Post hPost => ?_)
  show FV _ _ _ _ _ _ _ _ _ _ _ _ [_, _, _] [] _
  obtain ⟨T, n, P, I, B, s⟩ := σ
  have hT : TabOf D 3 T := hX.1
  have hO : OrdOf D 1 T n := hX.2.1
  have hH : HisOf D P := hX.2.2.1
  have hI : ImgOf D I := hX.2.2.2.1
  have hB : BookOf D B := hX.2.2.2.2.1
  have hs : D 0 9 = s := hX.2.2.2.2.2
  have v : VT T n := ok.1
  have h40 := v.2.1
  have hn : D 3 3 = nI n := hT.n v
  have hb := len1
  refine fv_aload_n (q := 1) dX6_heap_0 rfl rfl ?_
  refine fl_getR (q := 4) dX6_heap_1 fX6_27 sh0 rfl rfl ?_
  refine fv_iload_n (q := 5) dX6_heap_4 rfl rfl ?_
  refine fl_callVi (As := [_]) (q := 8) dX6_heap_5 gX6_100 rfl hb.tab.sh.1 rfl rfl (Nat.le_of_ble_eq_true rfl) rfl (by decide) (c_has 3 tab3 r D J) ?_
  refine fv_top (y := bi (okr n r)) (by rw [hn]; rfl) ?_
  refine fv_if_ne (q := 11) 14 dX6_heap_8 (by decide) rfl (fun c8 => ?_) (fun c8 => ?_)
  · rw [bi_n'] at c8
    obtain ⟨j, hj, hrj, hjc⟩ := okr_t c8 h40
    refine fv_iload_n (q := 15) dX6_heap_14 rfl rfl ?_
    refine fv_iconst (v := 1) (q := 16) dX6_heap_15 (by decide) rfl ?_
    refine fv_bipush (v := 20) (q := 18) dX6_heap_16 (by decide) rfl ?_
    refine fl_callSi (As := [_, _, _]) (q := 21) dX6_heap_18 gX6_162 rfl rfl (Nat.le_of_ble_eq_true rfl) rfl (by decide) (c_within D J k 1 20) ?_
    refine fv_if_ne (q := 24) 27 dX6_heap_21 (by decide) rfl (fun c21 => ?_) (fun c21 => ?_)
    · rw [bi_n'] at c21
      obtain ⟨m, hm1, hm2, hkm, hkc⟩ := wth_n (a := 1) (b := 20) c21 (by decide) (by decide)
      subst hrj hkm
      have hpp := pos_part (T := T) hj
      have hpl := part_le (T := T) (n := n) (r := j)
      refine fv_aload_n (q := 28) dX6_heap_27 rfl rfl ?_
      refine fl_getR (q := 31) dX6_heap_28 fX6_20 sh0 rfl rfl ?_
      refine fl_getR (q := 34) dX6_heap_31 fX6_115 hb.ord rfl rfl ?_
      refine fv_iload_n (q := 35) dX6_heap_34 rfl rfl ?_
      refine fl_iald (q := 36) _ dX6_heap_35 hb.arr.2.2.1 (by decide) rfl (by omega) rfl ?_
      refine fv_top (hO.2.2.1 j hj) ?_
      refine fv_aload_n (q := 37) dX6_heap_36 rfl rfl ?_
      refine fl_getR (q := 40) dX6_heap_37 fX6_20 sh0 rfl rfl ?_
      refine fv_iload_n (q := 41) dX6_heap_40 rfl rfl ?_
      refine fl_callVi (As := [_]) (q := 44) dX6_heap_41 gX6_201 rfl hb.ord rfl rfl (Nat.le_of_ble_eq_true rfl) rfl (by decide) (c_sizeOfPart 1 len1 D J T n hT v hO j hj) ?_
      refine fv_iload_n (q := 45) dX6_heap_44 rfl rfl ?_
      refine fl_callSi (As := [_, _, _]) (q := 48) dX6_heap_45 gX6_204 rfl rfl (Nat.le_of_ble_eq_true rfl) rfl (by decide) (c_heapAt D J _ _ m hm1 hm2 (by omega) (by omega)) ?_
      refine fv_iret dX6_heap_48 rfl rfl (Nat.le_refl _) ?_
      exact hPost _ _ _ ⟨by unfold f_heap; rw [if_neg (by rw [c8]; decide), if_neg (by rw [c21]; decide), hjc, hkc], hX, KX.rf⟩
    · rw [bi_0] at c21
      refine fv_ldc (q := 26) dX6_heap_24 kX6_99 rfl ?_
      refine fv_iret dX6_heap_26 rfl rfl (Nat.le_refl _) ?_
      exact hPost _ _ _ ⟨by unfold f_heap; rw [if_neg (by rw [c8]; decide), if_pos c21], hX, KX.rf⟩
  · rw [bi_0] at c8
    refine fv_ldc (q := 13) dX6_heap_11 kX6_104 rfl ?_
    refine fv_iret dX6_heap_13 rfl rfl (Nat.le_refl _) ?_
    exact hPost _ _ _ ⟨by unfold f_heap; rw [if_pos c8], hX, KX.rf⟩
theorem sh_add {p : Nat} {d : Int32} (hp : p < 40) (hd : -20 ≤ d.toInt ∧ d.toInt ≤ 20) : (nI p + d).toInt = (p : Int) + d.toInt := by
  rw [fb_addI (by rw [nI_toInt (by omega)]; omega) (by rw [nI_toInt (by omega)]; omega), nI_toInt (by omega)]
set_option maxHeartbeats 4000000 in
set_option maxRecDepth 100000 in
theorem c_shift (D : Nat → Nat → Int32) (J : Nat → Nat → Int64) (σ : Sg) (hX : XR D σ) (ok : SgOk σ) (r d : Int32) : FD yX6_shift cX6_shift 4 (some .int) 1 [.ref 0, .int r, .int d] D J (fun res D' J' => res = some (.int (f_shift σ r d)) ∧ XR D' σ ∧ KX D D' J J') := by
  refine FD.of (by decide) rfl (Nat.le_of_ble_eq_true rfl) (fun Post hPost => ?_)
  show FV _ _ _ _ _ _ _ _ _ _ _ _ [_, _, _, _] [] _
  obtain ⟨T, n, P, I, B, s⟩ := σ
  have hT : TabOf D 3 T := hX.1
  have hO : OrdOf D 1 T n := hX.2.1
  have hH : HisOf D P := hX.2.2.1
  have hI : ImgOf D I := hX.2.2.2.1
  have hB : BookOf D B := hX.2.2.2.2.1
  have hs : D 0 9 = s := hX.2.2.2.2.2
  have v : VT T n := ok.1
  have h40 := v.2.1
  have hn : D 3 3 = nI n := hT.n v
  have hb := len1
  refine fv_aload_n (q := 1) dX6_shift_0 rfl rfl ?_
  refine fl_getR (q := 4) dX6_shift_1 fX6_27 sh0 rfl rfl ?_
  refine fv_iload_n (q := 5) dX6_shift_4 rfl rfl ?_
  refine fl_callVi (As := [_]) (q := 8) dX6_shift_5 gX6_100 rfl hb.tab.sh.1 rfl rfl (Nat.le_of_ble_eq_true rfl) rfl (by decide) (c_has 3 tab3 r D J) ?_
  refine fv_top (y := bi (okr n r)) (by rw [hn]; rfl) ?_
  refine fv_if_ne (q := 11) 14 dX6_shift_8 (by decide) rfl (fun c8 => ?_) (fun c8 => ?_)
  · rw [bi_n'] at c8
    obtain ⟨j, hj, hrj, hjc⟩ := okr_t c8 h40
    refine fv_iload_n (q := 15) dX6_shift_14 rfl rfl ?_
    refine fv_bipush (v := (-20)) (q := 17) dX6_shift_15 (by decide) rfl ?_
    refine fv_bipush (v := 20) (q := 19) dX6_shift_17 (by decide) rfl ?_
    refine fl_callSi (As := [_, _, _]) (q := 22) dX6_shift_19 gX6_162 rfl rfl (Nat.le_of_ble_eq_true rfl) rfl (by decide) (c_within D J d (-20) 20) ?_
    refine fv_if_ne (q := 25) 28 dX6_shift_22 (by decide) rfl (fun c22 => ?_) (fun c22 => ?_)
    · rw [bi_n'] at c22
      have hd : -20 ≤ d.toInt ∧ d.toInt ≤ 20 := by rw [wth_i] at c22; exact c22
      subst hrj
      refine fv_aload_n (q := 29) dX6_shift_28 rfl rfl ?_
      refine fl_getR (q := 32) dX6_shift_29 fX6_20 sh0 rfl rfl ?_
      refine fv_aload_n (q := 33) dX6_shift_32 rfl rfl ?_
      refine fl_getR (q := 36) dX6_shift_33 fX6_20 sh0 rfl rfl ?_
      refine fl_getR (q := 39) dX6_shift_36 fX6_128 hb.ord rfl rfl ?_
      refine fv_iload_n (q := 40) dX6_shift_39 rfl rfl ?_
      refine fl_iald (q := 41) _ dX6_shift_40 hb.arr.2.1 (by decide) rfl (by omega) rfl ?_
      refine fv_top (hO.2.1 j hj) ?_
      refine fv_iload_n (q := 42) dX6_shift_41 rfl rfl ?_
      refine fv_iadd (q := 43) dX6_shift_42 rfl ?_
      have hpl := pos_lt (T := T) hj
      have hpp := pos_part (T := T) hj
      have hle := part_le (T := T) (n := n) (r := j)
      have fin : f_shift (T, n, P, I, B, s) (nI j) d = shv T n j d.toInt := by unfold f_shift; rw [if_neg (by rw [c8]; decide), if_neg (by rw [c22]; decide), hjc]
      have hadd := sh_add (p := pos T n j) (d := d) (by omega) hd
      by_cases hk : okr n (nI (pos T n j) + d) = false
      · refine fl_callVi (As := [_]) (q := 46) dX6_shift_43 gX6_134 rfl hb.ord rfl rfl (Nat.le_of_ble_eq_true rfl) rfl (by decide) (c_atO 1 hb D J n hn _ (okr_f hk)) ?_
        have hno : shv T n j d.toInt = -1 := by
          unfold shv
          rw [if_neg]
          intro z
          have h9 := okr_f hk
          rw [fa_lt, fa_le, hadd, nI_toInt (by omega)] at h9
          have : (0 : Int32).toInt = 0 := by decide
          omega
        refine fv_istore_n (i := 3) (q := 47) (l' := [_, _, _, _]) dX6_shift_46 rfl (by decide) rfl rfl rfl ?_
        refine fv_iload_n (q := 48) dX6_shift_47 rfl rfl ?_
        refine fv_iconst (v := (-1)) (q := 49) dX6_shift_48 (by decide) rfl ?_
        refine fv_icmp_eq (q := 52) 77 dX6_shift_49 (by decide) rfl (fun c49 => ?_) (fun c49 => absurd rfl c49)
        refine fv_iconst (v := (-1)) (q := 78) dX6_shift_77 (by decide) rfl ?_
        refine fv_iret dX6_shift_78 rfl rfl (Nat.le_refl _) ?_
        exact hPost _ _ _ ⟨by rw [fin, hno], hX, KX.rf⟩
      · obtain ⟨x, hx, hxe, hxc⟩ := okr_t (by simpa using hk) h40
        rw [hxe]
        have hxi : (x : Int) = (pos T n j : Int) + d.toInt := by rw [← hadd, hxe, nI_toInt (by omega)]
        have hxe : ((pos T n j : Int) + d.toInt).toNat = x := by omega
        refine fl_callVi (As := [_]) (q := 46) dX6_shift_43 gX6_134 rfl hb.ord rfl rfl (Nat.le_of_ble_eq_true rfl) rfl (by decide) (c_atI 1 hb D J n x hn h40 hx) ?_
        refine fv_top (hO.1 x hx) ?_
        have hl := lin_lt (T := T) hx
        refine fv_istore_n (i := 3) (q := 47) (l' := [_, _, _, _]) dX6_shift_46 rfl (by decide) rfl rfl rfl ?_
        refine fv_iload_n (q := 48) dX6_shift_47 rfl rfl ?_
        refine fv_iconst (v := (-1)) (q := 49) dX6_shift_48 (by decide) rfl ?_
        refine fv_icmp_eq (q := 52) 77 dX6_shift_49 (by decide) rfl (fun c49 => absurd c49 (nI_m1 (by omega))) (fun c49 => ?_)
        refine fv_aload_n (q := 53) dX6_shift_52 rfl rfl ?_
        refine fl_getR (q := 56) dX6_shift_53 fX6_27 sh0 rfl rfl ?_
        refine fl_getR (q := 59) dX6_shift_56 fX6_105 hb.tab.sh.1 rfl rfl ?_
        refine fv_iload_n (q := 60) dX6_shift_59 rfl rfl ?_
        refine fl_iald (q := 61) _ dX6_shift_60 hb.tab.sh.2.1 (by decide) rfl (by omega) rfl ?_
        refine fv_top (hT.2.1 _ (by omega)) ?_
        refine fv_aload_n (q := 62) dX6_shift_61 rfl rfl ?_
        refine fl_getR (q := 65) dX6_shift_62 fX6_27 sh0 rfl rfl ?_
        refine fl_getR (q := 68) dX6_shift_65 fX6_105 hb.tab.sh.1 rfl rfl ?_
        refine fv_iload_n (q := 69) dX6_shift_68 rfl rfl ?_
        refine fl_iald (q := 70) _ dX6_shift_69 hb.tab.sh.2.1 (by decide) rfl (by omega) rfl ?_
        refine fv_top (hT.2.1 _ (by omega)) ?_
        refine fv_icmp_ne (q := 73) 77 dX6_shift_70 (by decide) rfl (fun c70 => ?_) (fun c70 => ?_)
        · refine fv_iconst (v := (-1)) (q := 78) dX6_shift_77 (by decide) rfl ?_
          refine fv_iret dX6_shift_78 rfl rfl (Nat.le_refl _) ?_
          refine hPost _ _ _ ⟨?_, hX, KX.rf⟩
          rw [fin]
          unfold shv
          rw [if_neg (fun z => c70 ((in_part (T := T) hj (by omega)).mpr (by omega)))]
        · refine fv_iload_n (q := 74) dX6_shift_73 rfl rfl ?_
          refine fv_goto 78 dX6_shift_74 (by decide) ?_
          refine fv_iret dX6_shift_78 rfl rfl (Nat.le_refl _) ?_
          have hip := (in_part (T := T) hj (k := x) (by omega)).mp c70
          refine hPost _ _ _ ⟨?_, hX, KX.rf⟩
          rw [fin]
          unfold shv
          rw [if_pos (by omega), hxe]
    · rw [bi_0] at c22
      refine fv_ldc (q := 27) dX6_shift_25 kX6_99 rfl ?_
      refine fv_iret dX6_shift_27 rfl rfl (Nat.le_refl _) ?_
      exact hPost _ _ _ ⟨by unfold f_shift; rw [if_neg (by rw [c8]; decide), if_pos c22], hX, KX.rf⟩
  · rw [bi_0] at c8
    refine fv_ldc (q := 13) dX6_shift_11 kX6_104 rfl ?_
    refine fv_iret dX6_shift_13 rfl rfl (Nat.le_refl _) ?_
    exact hPost _ _ _ ⟨by unfold f_shift; rw [if_pos c8], hX, KX.rf⟩
set_option maxHeartbeats 4000000 in
set_option maxRecDepth 100000 in
theorem c_would (D : Nat → Nat → Int32) (J : Nat → Nat → Int64) (σ : Sg) (hX : XR D σ) (ok : SgOk σ) (p k : Int32) : FD yX6_would cX6_would 5 (some .int) 2 [.ref 0, .int p, .int k] D J (fun res D' J' => res = some (.int (f_would σ p k)) ∧ XR D' σ ∧ KX D D' J J') := by
  refine FD.of (by decide) rfl (Nat.le_of_ble_eq_true rfl) (fun Post hPost => ?_)
  show FV _ _ _ _ _ _ _ _ _ _ _ _ [_, _, _, _, _] [] _
  obtain ⟨T, n, P, I, B, s⟩ := σ
  have hT : TabOf D 3 T := hX.1
  have hO : OrdOf D 1 T n := hX.2.1
  have hH : HisOf D P := hX.2.2.1
  have hI : ImgOf D I := hX.2.2.2.1
  have hB : BookOf D B := hX.2.2.2.2.1
  have hs : D 0 9 = s := hX.2.2.2.2.2
  have v : VT T n := ok.1
  have h40 := v.2.1
  have hn : D 3 3 = nI n := hT.n v
  have hb := len1
  have fin : wth p 0 5 = true → isKeyB k = true → f_would (T, n, P, I, B, s) p k = nI (fb_ct (fun e => !wldB T p k e) n) := fun h1 h2 => by unfold f_would; rw [if_neg (by rw [h1, h2]; decide)]
  have loop : wth p 0 5 = true → isKeyB k = true → ∀ i, i ≤ n → FV cX6_would 5 (some .int) yX6_would.cls yX6_would.name 2 0 0 Post 0 0 22 [some (.ref 0), some (.int p), some (.int k), some (.int (nI (fb_ct (fun e => !wldB T p k e) i))), some (.int (nI i))] [] (lay D J) := by
    intro h1 h2
    refine up_ind (fun i hi ih => ?_)
    refine fv_iload (q := 24) dX6_would_22 rfl rfl ?_
    refine fv_aload_n (q := 25) dX6_would_24 rfl rfl ?_
    refine fl_getR (q := 28) dX6_would_25 fX6_27 sh0 rfl rfl ?_
    refine fl_getI (q := 31) dX6_would_28 fX6_62 hb.tab.sh.1 rfl rfl ?_
    refine fv_top hn ?_
    refine fv_icmp_ge (q := 34) 57 dX6_would_31 (by decide) rfl (fun c31 => ?_) (fun c31 => ?_)
    · rw [nI_leI (by omega) (by omega)] at c31
      have hin : i = n := by omega
      subst hin
      refine fv_iload_n (q := 58) dX6_would_57 rfl rfl ?_
      refine fv_iret dX6_would_58 rfl rfl (Nat.le_refl _) ?_
      exact hPost _ _ _ ⟨by rw [fin h1 h2], hX, KX.rf⟩
    · rw [nI_leI (by omega) (by omega)] at c31
      refine fv_aload_n (q := 35) dX6_would_34 rfl rfl ?_
      refine fl_getR (q := 38) dX6_would_35 fX6_27 sh0 rfl rfl ?_
      refine fv_iload_n (q := 39) dX6_would_38 rfl rfl ?_
      refine fv_iload_n (q := 40) dX6_would_39 rfl rfl ?_
      refine fv_iload (q := 42) dX6_would_40 rfl rfl ?_
      refine fl_callVi (As := [_, _, _]) (q := 45) dX6_would_42 gX6_211 rfl hb.tab.sh.1 rfl rfl (Nat.le_of_ble_eq_true rfl) rfl (by decide) (c_isBefore 3 tab3 D J T hT v.2.2.1 p k i (by omega)) ?_
      refine fv_if_ne (q := 48) 51 dX6_would_45 (by decide) rfl (fun c45 => ?_) (fun c45 => ?_)
      · rw [bi_n'] at c45
        refine fv_iinc (v := _ + 1) (q := 54) (l' := [_, _, _, _, _]) dX6_would_51 rfl rfl (by decide) rfl rfl rfl ?_
        refine fv_goto 22 dX6_would_54 (by decide) ?_
        have hp : ¬ (fun e => !wldB T p k e) i = true := by show ¬ (!wldB T p k i) = true; unfold wldB; rw [c45]; decide
        have h9 := ih (by omega)
        rw [fb_ct_succ, if_neg hp, Nat.add_zero] at h9
        rw [nI_1]
        exact h9
      · rw [bi_0] at c45
        refine fv_iinc (v := _ + 1) (q := 51) (l' := [_, _, _, _, _]) dX6_would_48 rfl rfl (by decide) rfl rfl rfl ?_
        refine fv_iinc (v := _ + 1) (q := 54) (l' := [_, _, _, _, _]) dX6_would_51 rfl rfl (by decide) rfl rfl rfl ?_
        refine fv_goto 22 dX6_would_54 (by decide) ?_
        have hp : (fun e => !wldB T p k e) i = true := by show (!wldB T p k i) = true; unfold wldB; rw [c45]; rfl
        have h9 := ih (by omega)
        rw [fb_ct_succ, if_pos hp] at h9
        rw [nI_1, nI_1]
        exact h9
  refine fv_iload_n (q := 1) dX6_would_0 rfl rfl ?_
  refine fl_callSi (As := [_]) (q := 4) dX6_would_1 gX6_137 rfl rfl (Nat.le_of_ble_eq_true rfl) rfl (by decide) (c_isPart D J p) ?_
  refine fv_if_eq (q := 7) 14 dX6_would_4 (by decide) rfl (fun c4 => ?_) (fun c4 => ?_)
  · rw [bi_0] at c4
    refine fv_ldc (q := 16) dX6_would_14 kX6_99 rfl ?_
    refine fv_iret dX6_would_16 rfl rfl (Nat.le_refl _) ?_
    exact hPost _ _ _ ⟨by unfold f_would; rw [if_pos (by rw [c4]; rfl)], hX, KX.rf⟩
  · rw [bi_n'] at c4
    refine fv_iload_n (q := 8) dX6_would_7 rfl rfl ?_
    refine fl_callSi (As := [_]) (q := 11) dX6_would_8 gX6_140 rfl rfl (Nat.le_of_ble_eq_true rfl) rfl (by decide) (c_isKey D J k) ?_
    refine fv_if_ne (q := 14) 17 dX6_would_11 (by decide) rfl (fun c11 => ?_) (fun c11 => ?_)
    · rw [bi_n'] at c11
      refine fv_iconst (v := 0) (q := 18) dX6_would_17 (by decide) rfl ?_
      refine fv_istore_n (i := 3) (q := 19) (l' := [_, _, _, _, _]) dX6_would_18 rfl (by decide) rfl rfl rfl ?_
      refine fv_iconst (v := 0) (q := 20) dX6_would_19 (by decide) rfl ?_
      refine fv_istore (q := 22) (l' := [_, _, _, _, _]) dX6_would_20 (by decide) rfl rfl rfl ?_
      exact loop c4 c11 0 (Nat.zero_le _)
    · rw [bi_0] at c11
      refine fv_ldc (q := 16) dX6_would_14 kX6_99 rfl ?_
      refine fv_iret dX6_would_16 rfl rfl (Nat.le_refl _) ?_
      exact hPost _ _ _ ⟨by unfold f_would; rw [if_pos (by rw [c4, c11]; rfl)], hX, KX.rf⟩
