/-! the model: told, but for its switch -/
def KR (D E : Nat → Nat → Int32) : Prop := (∀ x, x < 16 → E 124 x = D 124 x) ∧ ∀ c, (c < 124 ∨ (124 < c ∧ c < 131 ∧ c ≠ 126)) → E c = D c
theorem KR.rf (D : Nat → Nat → Int32) : KR D D := ⟨fun _ _ => rfl, fun _ _ => rfl⟩
theorem KR.tr {D E F : Nat → Nat → Int32} (h : KR D E) (h2 : KR E F) : KR D F := ⟨fun x hx => (h2.1 x hx).trans (h.1 x hx), fun c hc => (h2.2 c hc).trans (h.2 c hc)⟩
theorem KF.kr {D E : Nat → Nat → Int32} (h : KF D E) : KR D E := ⟨h.1, fun c hc => h.2 c (by omega) (by omega) (by omega)⟩
theorem KR.st {D E : Nat → Nat → Int32} (h : ∀ c, c < 131 ∨ 137 < c → E c = D c) : KR D E := ⟨fun x _ => by rw [h 124 (by decide)], fun c hc => h c (by omega)⟩
theorem KR.ua {D E : Nat → Nat → Int32} {i x : Nat} {y : Int32} (h : KR D E) (hi : i = 126 ∨ 131 ≤ i) : KR D (up E i x y) :=
  ⟨fun z h1 => by rw [up_n _ _ _ (by omega)]; exact h.1 z h1, fun c hc => by rw [up_n _ _ _ (by omega)]; exact h.2 c hc⟩
theorem KR.mt {D E : Nat → Nat → Int32} {T : Nat → Int32} (h : KR D E) (hM : MT D 125 T) : MT E 125 T := by
  unfold MT; rw [h.2 125 (by decide)]; exact hM
theorem okr_w {n : Nat} {r : Int32} (hn : n ≤ 40) : wth r 0 (nI n - 1) = okr n r := by
  have h0 : (0 : Int32).toInt = 0 := by decide
  have h1 : (1 : Int32).toInt = 1 := by decide
  have e : (nI n).toInt = (n : Int) := nI_toInt (by omega)
  have e2 : (nI n - 1).toInt = (n : Int) - 1 := by rw [fb_subI (by omega) (by omega), e, h1]
  unfold wth okr
  rw [← Bool.decide_and, ← Bool.decide_and]
  refine ndec ?_
  rw [fa_le, fa_le, fa_lt, fa_lt, e2, e]
  omega
set_option maxHeartbeats 4000000 in
set_option maxRecDepth 100000 in
theorem m_isRow (D : Nat → Nat → Int32) (J : Nat → Nat → Int64) (T : Nat → Int32) (n : Nat) (hM : MT D 125 T) (v : VT T n) (r : Int32) : FI yX7_isRow cX7_isRow 2 (some .boolean) 1 [.ref 124, .int r] D J (bi (okr n r)) := by
  refine FI.of (by decide) rfl (Nat.le_of_ble_eq_true rfl) (fun Post hPost => ?_)
  show FV _ _ _ _ _ _ _ _ _ _ _ _ [_, _] [] _
  refine fv_iload_n (q := 1) dX7_isRow_0 rfl rfl ?_
  refine fv_iconst (v := 0) (q := 2) dX7_isRow_1 (by decide) rfl ?_
  refine fv_aload_n (q := 3) dX7_isRow_2 rfl rfl ?_
  refine fl_getR (q := 6) dX7_isRow_3 fX7_7 sh124 rfl rfl ?_
  refine fv_iconst (v := 0) (q := 7) dX7_isRow_6 (by decide) rfl ?_
  refine fl_iald (q := 8) 0 dX7_isRow_7 sh125 (by decide) rfl (by decide) rfl ?_
  refine fv_top (y := nI n) ((hM 0 (by decide)).trans v.1) ?_
  refine fv_iconst (v := 1) (q := 9) dX7_isRow_8 (by decide) rfl ?_
  refine fv_isub (q := 10) dX7_isRow_9 rfl ?_
  refine fl_callSi (As := [_, _, _]) (q := 13) dX7_isRow_10 gX7_120 rfl rfl (Nat.le_of_ble_eq_true rfl) rfl (by decide) (m_in D J _ _ _) ?_
  refine fv_top (y := bi (okr n r)) (by rw [okr_w v.2.1]) ?_
  refine fv_zret dX7_isRow_13 rfl (bi_nar _) rfl (Nat.le_refl _) ?_
  exact hPost
set_option maxHeartbeats 4000000 in
set_option maxRecDepth 100000 in
theorem m_setOf (D : Nat → Nat → Int32) (J : Nat → Nat → Int64) (T : Nat → Int32) (n : Nat) (hM : MT D 125 T) (v : VT T n) (hL : LaidM D T n) (r : Nat) (hr : r < n) : FD yX7_setOf cX7_setOf 5 (some .long) 4 [.ref 124, .int (nI r)] D J (fun res D' J' => res = some (.long (stF T n r)) ∧ J' = J ∧ KF D D') := by
  refine FD.of (by decide) rfl (Nat.le_of_ble_eq_true rfl) (fun Post hPost => ?_)
  show FV _ _ _ _ _ _ _ _ _ _ _ _ [_, _, _, _, _] [] _
  have hlen : (frL T n r n).length ≤ 40 := by have := frL_len T n r n; have := v.2.1; omega
  have loop : ∀ E : Nat → Nat → Int32, KF D E → FrS E (frL T n r n) → ∀ i, i ≤ (frL T n r n).length → FV cX7_setOf 5 (some .long) yX7_setOf.cls yX7_setOf.name 4 0 0 Post 0 0 14 [some (.ref 124), some (.int (nI r)), some (.long (stL ((frL T n r n).take i))), none, some (.int (nI i))] [] (lay E J) := by
    intro E hK hS
    refine up_ind (fun i hi ih => ?_)
    refine fv_iload (q := 16) dX7_setOf_14 rfl rfl ?_
    refine fv_aload_n (q := 17) dX7_setOf_16 rfl rfl ?_
    refine fl_getI (q := 20) dX7_setOf_17 fX7_100 sh124 rfl rfl ?_
    refine fv_top (y := nI (frL T n r n).length) hS.1 ?_
    refine fv_icmp_ge (q := 23) 41 dX7_setOf_20 (by decide) rfl (fun c20 => ?_) (fun c20 => ?_)
    · rw [nI_leI (by omega) (by omega)] at c20
      have hin : i = (frL T n r n).length := by omega
      refine fv_lload_n (q := 42) dX7_setOf_41 rfl rfl ?_
      refine fv_lret dX7_setOf_42 rfl rfl (Nat.le_refl _) ?_
      rw [hin, List.take_length]
      exact hPost _ _ _ ⟨rfl, rfl, hK⟩
    · rw [nI_leI (by omega) (by omega)] at c20
      refine fv_lload_n (q := 24) dX7_setOf_23 rfl rfl ?_
      refine fv_lconst (v := 1) (q := 25) dX7_setOf_24 (by decide) rfl ?_
      refine fv_aload_n (q := 26) dX7_setOf_25 rfl rfl ?_
      refine fl_getR (q := 29) dX7_setOf_26 fX7_50 sh124 rfl rfl ?_
      refine fv_iload (q := 31) dX7_setOf_29 rfl rfl ?_
      refine fl_iald (q := 32) i dX7_setOf_31 sh138 (by decide) rfl (by omega) rfl ?_
      refine fv_top (holN_get hS.2 (by omega) 0) ?_
      refine fv_lshl (q := 33) dX7_setOf_32 rfl ?_
      refine fv_lor (q := 34) dX7_setOf_33 rfl ?_
      refine fv_topl (stL_take (frL T n r n) (by omega)).symm ?_
      refine fv_lstore_n (i := 2) (q := 35) (l' := [_, _, _, _, _]) dX7_setOf_34 rfl (by decide) rfl rfl rfl ?_
      refine fv_iinc (v := _ + 1) (q := 38) (l' := [_, _, _, _, _]) dX7_setOf_35 rfl rfl (by decide) rfl rfl rfl ?_
      refine fv_goto 14 dX7_setOf_38 (by decide) ?_
      rw [nI_1]
      exact ih (by omega)
  refine fv_aload_n (q := 1) dX7_setOf_0 rfl rfl ?_
  refine fv_aload_n (q := 2) dX7_setOf_1 rfl rfl ?_
  refine fl_getR (q := 5) dX7_setOf_2 fX7_7 sh124 rfl rfl ?_
  refine fv_iload_n (q := 6) dX7_setOf_5 rfl rfl ?_
  refine fl_callV (As := [_, _]) (q := 9) dX7_setOf_6 gX7_106 rfl sh124 rfl rfl (Nat.le_of_ble_eq_true rfl) rfl (by decide) (m_frames 125 sh125 D J T hM n v ⟨by decide, by decide⟩ hL r hr) (fun res D1 J1 hp => ?_)
  obtain ⟨rfl, rfl, hK, hS⟩ := hp
  refine fv_lconst (v := 0) (q := 10) dX7_setOf_9 (by decide) rfl ?_
  refine fv_lstore_n (i := 2) (q := 11) (l' := [_, _, _, _, _]) dX7_setOf_10 rfl (by decide) rfl rfl rfl ?_
  refine fv_iconst (v := 0) (q := 12) dX7_setOf_11 (by decide) rfl ?_
  refine fv_istore (q := 14) (l' := [_, _, _, _, _]) dX7_setOf_12 (by decide) rfl rfl rfl ?_
  exact loop D1 hK hS 0 (Nat.zero_le _)
set_option maxHeartbeats 4000000 in
set_option maxRecDepth 100000 in
theorem m_alikes (D : Nat → Nat → Int32) (J : Nat → Nat → Int64) (T : Nat → Int32) (n : Nat) (hM : MT D 125 T) (v : VT T n) (hL : LaidM D T n) : FD yX7_alikes cX7_alikes 4 (some .int) 5 [.ref 124] D J (fun res D' J' => res = some (.int (nI (alk T n n))) ∧ KF D D' ∧ ∀ a, a ≠ 140 → J' a = J a) := by
  refine FD.of (by decide) rfl (Nat.le_of_ble_eq_true rfl) (fun Post hPost => ?_)
  show FV _ _ _ _ _ _ _ _ _ _ _ _ [_, _, _, _] [] _
  have h40 := v.2.1
  have loop2 : ∀ (E : Nat → Nat → Int32) (J2 : Nat → Nat → Int64), KF D E → (∀ a, a ≠ 140 → J2 a = J a) → (∀ k, k < n → J2 140 k = stF T n k) → ∀ i, i ≤ n → ∀ l3 : Option Value, FV cX7_alikes 4 (some .int) yX7_alikes.cls yX7_alikes.name 5 0 0 Post 0 0 33 [some (.ref 124), some (.int (nI (alk T n i))), some (.int (nI i)), l3] [] (lay E J2) := by
    intro E J2 hK hJf hJ
    have hME : MT E 125 T := hK.mt hM ⟨by decide, by decide⟩
    refine up_ind (fun i hi ih => ?_)
    intro l3
    have inn : ∀ j, j ≤ i → i < n → FV cX7_alikes 4 (some .int) yX7_alikes.cls yX7_alikes.name 5 0 0 Post 0 0 45 [some (.ref 124), some (.int (nI (alk T n i + fb_ct (fun e => decide (stF T n e = stF T n i)) j))), some (.int (nI i)), some (.int (nI j))] [] (lay E J2) := by
      refine up_ind (fun j hj ih2 => ?_)
      intro hin
      refine fv_iload_n (q := 46) dX7_alikes_45 rfl rfl ?_
      refine fv_iload_n (q := 47) dX7_alikes_46 rfl rfl ?_
      refine fv_icmp_ge (q := 50) 80 dX7_alikes_47 (by decide) rfl (fun c47 => ?_) (fun c47 => ?_)
      · rw [nI_leI (by omega) (by omega)] at c47
        have hjn : j = i := by omega
        subst hjn
        refine fv_iinc (v := _ + 1) (q := 83) (l' := [_, _, _, _]) dX7_alikes_80 rfl rfl (by decide) rfl rfl rfl ?_
        refine fv_goto 33 dX7_alikes_83 (by decide) ?_
        have e9 : alk T n j + fb_ct (fun e => decide (stF T n e = stF T n j)) j = alk T n (j + 1) := by unfold alk; rw [fb_sm_succ]
        rw [nI_1, e9]
        exact ih (by omega) _
      · rw [nI_leI (by omega) (by omega)] at c47
        refine fv_iload_n (q := 51) dX7_alikes_50 rfl rfl ?_
        refine fv_aload_n (q := 52) dX7_alikes_51 rfl rfl ?_
        refine fl_getR (q := 55) dX7_alikes_52 fX7_56 sh124 rfl rfl ?_
        refine fv_iload_n (q := 56) dX7_alikes_55 rfl rfl ?_
        refine fl_lald (q := 57) i dX7_alikes_56 sh140 (by decide) rfl (by omega) rfl ?_
        refine fv_topl (hJ i (by omega)) ?_
        refine fv_aload_n (q := 58) dX7_alikes_57 rfl rfl ?_
        refine fl_getR (q := 61) dX7_alikes_58 fX7_56 sh124 rfl rfl ?_
        refine fv_iload_n (q := 62) dX7_alikes_61 rfl rfl ?_
        refine fl_lald (q := 63) j dX7_alikes_62 sh140 (by decide) rfl (by omega) rfl ?_
        refine fv_topl (hJ j (by omega)) ?_
        refine fv_lcmp (q := 64) dX7_alikes_63 rfl ?_
        refine fv_if_ne (q := 67) 71 dX7_alikes_64 (by decide) rfl (fun c64 => ?_) (fun c64 => ?_)
        · rw [lcmp_0] at c64
          refine fv_iconst (v := 0) (q := 72) dX7_alikes_71 (by decide) rfl ?_
          refine fv_iadd (q := 73) dX7_alikes_72 rfl ?_
          refine fv_istore_n (i := 1) (q := 74) (l' := [_, _, _, _]) dX7_alikes_73 rfl (by decide) rfl rfl rfl ?_
          refine fv_iinc (v := _ + 1) (q := 77) (l' := [_, _, _, _]) dX7_alikes_74 rfl rfl (by decide) rfl rfl rfl ?_
          refine fv_goto 45 dX7_alikes_77 (by decide) ?_
          have h9 := ih2 (by omega) hin
          rw [ct_f (p := fun e => decide (stF T n e = stF T n i)) (decide_eq_false (fun z => c64 z.symm))] at h9
          rw [nI_1, show (0 : Int32) = nI 0 from rfl, nI_add]
          exact h9
        · rw [lcmp_0] at c64
          refine fv_iconst (v := 1) (q := 68) dX7_alikes_67 (by decide) rfl ?_
          refine fv_goto 72 dX7_alikes_68 (by decide) ?_
          refine fv_iadd (q := 73) dX7_alikes_72 rfl ?_
          refine fv_istore_n (i := 1) (q := 74) (l' := [_, _, _, _]) dX7_alikes_73 rfl (by decide) rfl rfl rfl ?_
          refine fv_iinc (v := _ + 1) (q := 77) (l' := [_, _, _, _]) dX7_alikes_74 rfl rfl (by decide) rfl rfl rfl ?_
          refine fv_goto 45 dX7_alikes_77 (by decide) ?_
          have h9 := ih2 (by omega) hin
          rw [ct_t (p := fun e => decide (stF T n e = stF T n i)) (decide_eq_true c64.symm), ← Nat.add_assoc] at h9
          rw [nI_1, nI_1]
          exact h9
    refine fv_iload_n (q := 34) dX7_alikes_33 rfl rfl ?_
    refine fv_aload_n (q := 35) dX7_alikes_34 rfl rfl ?_
    refine fl_getR (q := 38) dX7_alikes_35 fX7_7 sh124 rfl rfl ?_
    refine fv_iconst (v := 0) (q := 39) dX7_alikes_38 (by decide) rfl ?_
    refine fl_iald (q := 40) 0 dX7_alikes_39 sh125 (by decide) rfl (by decide) rfl ?_
    refine fv_top (y := nI n) ((hME 0 (by decide)).trans v.1) ?_
    refine fv_icmp_ge (q := 43) 86 dX7_alikes_40 (by decide) rfl (fun c40 => ?_) (fun c40 => ?_)
    · rw [nI_leI (by omega) (by omega)] at c40
      have hin2 : i = n := by omega
      subst hin2
      refine fv_iload_n (q := 87) dX7_alikes_86 rfl rfl ?_
      refine fv_iret dX7_alikes_87 rfl rfl (Nat.le_refl _) ?_
      exact hPost _ _ _ ⟨rfl, hK, hJf⟩
    · rw [nI_leI (by omega) (by omega)] at c40
      refine fv_iconst (v := 0) (q := 44) dX7_alikes_43 (by decide) rfl ?_
      refine fv_istore_n (i := 3) (q := 45) (l' := [_, _, _, _]) dX7_alikes_44 rfl (by decide) rfl rfl rfl ?_
      exact inn 0 (Nat.zero_le _) (by omega)
  have loop : ∀ i, i ≤ n → ∀ (J2 : Nat → Nat → Int64) (E : Nat → Nat → Int32), KF D E → (∀ a, a ≠ 140 → J2 a = J a) → (∀ k, k < i → J2 140 k = stF T n k) → FV cX7_alikes 4 (some .int) yX7_alikes.cls yX7_alikes.name 5 0 0 Post 0 0 2 [some (.ref 124), some (.int (nI i)), none, none] [] (lay E J2) := by
    refine up_ind (fun i hi ih => ?_)
    intro J2 E hK hJf hJ
    refine fv_iload_n (q := 3) dX7_alikes_2 rfl rfl ?_
    refine fv_aload_n (q := 4) dX7_alikes_3 rfl rfl ?_
    refine fl_getR (q := 7) dX7_alikes_4 fX7_7 sh124 rfl rfl ?_
    refine fv_iconst (v := 0) (q := 8) dX7_alikes_7 (by decide) rfl ?_
    refine fl_iald (q := 9) 0 dX7_alikes_8 sh125 (by decide) rfl (by decide) rfl ?_
    refine fv_top (y := nI n) (((hK.mt hM ⟨by decide, by decide⟩) 0 (by decide)).trans v.1) ?_
    refine fv_icmp_ge (q := 12) 29 dX7_alikes_9 (by decide) rfl (fun c9 => ?_) (fun c9 => ?_)
    · rw [nI_leI (by omega) (by omega)] at c9
      have hin : i = n := by omega
      subst hin
      refine fv_iconst (v := 0) (q := 30) dX7_alikes_29 (by decide) rfl ?_
      refine fv_istore_n (i := 1) (q := 31) (l' := [_, _, _, _]) dX7_alikes_30 rfl (by decide) rfl rfl rfl ?_
      refine fv_iconst (v := 0) (q := 32) dX7_alikes_31 (by decide) rfl ?_
      refine fv_istore_n (i := 2) (q := 33) (l' := [_, _, _, _]) dX7_alikes_32 rfl (by decide) rfl rfl rfl ?_
      exact loop2 E J2 hK hJf hJ 0 (Nat.zero_le _) _
    · rw [nI_leI (by omega) (by omega)] at c9
      refine fv_aload_n (q := 13) dX7_alikes_12 rfl rfl ?_
      refine fl_getR (q := 16) dX7_alikes_13 fX7_56 sh124 rfl rfl ?_
      refine fv_iload_n (q := 17) dX7_alikes_16 rfl rfl ?_
      refine fv_aload_n (q := 18) dX7_alikes_17 rfl rfl ?_
      refine fv_iload_n (q := 19) dX7_alikes_18 rfl rfl ?_
      refine fl_callV (As := [_]) (q := 22) dX7_alikes_19 gX7_124 rfl sh124 rfl rfl (Nat.le_of_ble_eq_true rfl) rfl (by decide) (m_setOf E J2 T n (hK.mt hM ⟨by decide, by decide⟩) v (hK.la hL) i (by omega)) (fun res D1 J1 hp => ?_)
      obtain ⟨rfl, rfl, hK2⟩ := hp
      refine fl_last (q := 23) _ dX7_alikes_22 sh140 (by decide) rfl (by omega) rfl ?_
      refine fv_iinc (v := _ + 1) (q := 26) (l' := [_, _, _, _]) dX7_alikes_23 rfl rfl (by decide) rfl rfl rfl ?_
      refine fv_goto 2 dX7_alikes_26 (by decide) ?_
      rw [nI_1]
      refine ih (by omega) _ _ (hK.tr hK2) (fun a ha => by rw [uj_n _ _ _ ha]; exact hJf a ha) (fun k hk => ?_)
      rw [uj_s]
      by_cases q : k = i
      · subst q; rw [pk_uLs]
      · rw [pk_uLn q]; exact hJ k (by omega)
  refine fv_iconst (v := 0) (q := 1) dX7_alikes_0 (by decide) rfl ?_
  refine fv_istore_n (i := 1) (q := 2) (l' := [_, _, _, _]) dX7_alikes_1 rfl (by decide) rfl rfl rfl ?_
  exact loop 0 (Nat.zero_le _) J D (KF.rf D) (fun _ _ => rfl) (fun k hk => absurd hk (Nat.not_lt_zero _))
def msk (T : Nat → Int32) : Nat → Nat
  | 0 => 0
  | i + 1 => msk T i ||| 2 ^ (pz T i).toNat
theorem msk_lt {T : Nat → Int32} {n : Nat} (v : VT T n) : ∀ i, i ≤ n → msk T i < 64
  | 0, _ => Nat.lt_of_sub_ne_zero (by show 64 - 0 ≠ 0; decide)
  | i + 1, h => by
    have h1 := msk_lt v i (by omega)
    have h2 := (v.2.2.2.2.2 i (by omega)).1
    have h3 : 2 ^ (pz T i).toNat < 2 ^ 6 := Nat.pow_lt_pow_right (by decide) (by omega)
    exact Nat.or_lt_two_pow (n := 6) h1 h3
theorem msk_bit {T : Nat → Int32} {n : Nat} (v : VT T n) (k : Nat) : ∀ i, i ≤ n → ((msk T i).testBit k = true ↔ ∃ r, r < i ∧ pz T r = (k : Int))
  | 0, _ => ⟨fun h => by simp [msk] at h, fun h => by obtain ⟨r, hr, _⟩ := h; omega⟩
  | i + 1, h => by
    have h1 := msk_bit v k i (by omega)
    have h2 := (v.2.2.2.2.2 i (by omega)).1
    rw [msk, fb_bit_set, Bool.or_eq_true, h1, decide_eq_true_eq]
    constructor
    · rintro (⟨r, hr, e⟩ | e)
      · exact ⟨r, by omega, e⟩
      · exact ⟨i, by omega, by omega⟩
    · rintro ⟨r, hr, e⟩
      by_cases q : r = i
      · subst q; exact Or.inr (by omega)
      · exact Or.inl ⟨r, by omega, e⟩
theorem shl_p : ∀ p, p < 6 → (1 : Int32) <<< (nI p &&& 31) = nI (2 ^ p) := by decide +kernel
theorem shr_p : ∀ m, m < 64 → ∀ k, k < 6 → (nI m >>> (nI k &&& 31)) &&& 1 = nI (if m.testBit k then 1 else 0) := by decide +kernel
theorem ct_uniq {p : Nat → Bool} {n x : Nat} (hx : x < n) (hp : p x = true) (h : ∀ y, y < n → p y = true → y = x) : fb_ct p n = 1 := by
  rw [← ct_one hx]
  refine fb_ct_cong (fun k hk => ?_)
  by_cases q : k = x
  · subst q; rw [hp, decide_eq_true rfl]
  · rw [decide_eq_false q]
    cases e : p k with
    | false => rfl
    | true => exact absurd (h k hk e) q
theorem prt_1 {T : Nat → Int32} {n : Nat} (v : VT T n) (k : Nat) : fb_ct (fun r => decide (pos T n r - pf T n r = 0) && decide (pz T r = (k : Int))) n = if (msk T n).testBit k then 1 else 0 := by
  by_cases h : (msk T n).testBit k = true
  · rw [if_pos h]
    obtain ⟨r, hr, e⟩ := (msk_bit v k n (Nat.le_refl _)).mp h
    have hl := pf_lt (T := T) hr
    have hpp := pos_part (T := T) hr
    have e2 : pa T (lin T n (pf T n r)) = pa T r := (in_part hr hl).mpr ⟨Nat.le_refl _, by omega⟩
    refine ct_uniq (lin_lt (T := T) hl) ?_ (fun y hy hq => ?_)
    · rw [Bool.and_eq_true, decide_eq_true_eq, decide_eq_true_eq, pos_lin hl, pf_eq e2]
      exact ⟨Nat.sub_self _, by rw [pz_iff.mpr e2]; exact e⟩
    · rw [Bool.and_eq_true, decide_eq_true_eq, decide_eq_true_eq] at hq
      have e3 : pa T y = pa T r := pz_iff.mp (by rw [hq.2, e])
      have h4 := pos_part (T := T) hy
      rw [pf_eq e3] at h4 hq
      exact pos_inj hy (lin_lt hl) (by rw [pos_lin hl]; omega)
  · rw [if_neg h]
    refine ct_false (fun r hr => ?_)
    rw [decide_eq_false (p := pz T r = (k : Int)) (fun z => h ((msk_bit v k n (Nat.le_refl _)).mpr ⟨r, hr, z⟩)), Bool.and_false]
theorem ct_six {p : Nat → Bool} {z : Nat → Int} : ∀ n, (∀ r, r < n → 0 ≤ z r ∧ z r ≤ 5) → fb_ct p n = fb_ct (fun r => p r && decide (z r = 0)) n + fb_ct (fun r => p r && decide (z r = 1)) n + fb_ct (fun r => p r && decide (z r = 2)) n + fb_ct (fun r => p r && decide (z r = 3)) n + fb_ct (fun r => p r && decide (z r = 4)) n + fb_ct (fun r => p r && decide (z r = 5)) n
  | 0, _ => rfl
  | n + 1, h => by
    have ih := ct_six (p := p) (z := z) n (fun r hr => h r (by omega))
    have hz := h n (by omega)
    rw [fb_ct_succ, fb_ct_succ, fb_ct_succ, fb_ct_succ, fb_ct_succ, fb_ct_succ, fb_ct_succ, ih]
    cases e : p n with
    | false => simp
    | true =>
      rcases (show z n = 0 ∨ z n = 1 ∨ z n = 2 ∨ z n = 3 ∨ z n = 4 ∨ z n = 5 by omega) with q | q | q | q | q | q <;> rw [q] <;> simp <;> omega
theorem prt_eq {T : Nat → Int32} {n : Nat} (v : VT T n) : fb_ct (fun k => (msk T n).testBit k) 6 = prts T n := by
  unfold prts
  rw [ct_six (z := pz T) n (fun r hr => (v.2.2.2.2.2 r hr).1)]
  have e := fun k : Nat => prt_1 v k
  have e0 := e 0; have e1 := e 1; have e2 := e 2; have e3 := e 3; have e4 := e 4; have e5 := e 5
  simp only [Int.ofNat_zero, Int.ofNat_one, Int.cast_ofNat_Int] at e0 e1 e2 e3 e4 e5
  rw [show fb_ct (fun r => decide (pos T n r - pf T n r = 0) && decide (pz T r = 0)) n = _ from e0, show fb_ct (fun r => decide (pos T n r - pf T n r = 0) && decide (pz T r = 1)) n = _ from e1, show fb_ct (fun r => decide (pos T n r - pf T n r = 0) && decide (pz T r = 2)) n = _ from e2, show fb_ct (fun r => decide (pos T n r - pf T n r = 0) && decide (pz T r = 3)) n = _ from e3, show fb_ct (fun r => decide (pos T n r - pf T n r = 0) && decide (pz T r = 4)) n = _ from e4, show fb_ct (fun r => decide (pos T n r - pf T n r = 0) && decide (pz T r = 5)) n = _ from e5]
  rw [fb_ct_succ, fb_ct_succ, fb_ct_succ, fb_ct_succ, fb_ct_succ, fb_ct_succ]
  show 0 + _ + _ + _ + _ + _ + _ = _
  omega
theorem pa_nI {T : Nat → Int32} {n r : Nat} (v : VT T n) (hr : r < n) : pa T r = nI (pz T r).toNat ∧ (pz T r).toNat < 6 := by
  have h := (v.2.2.2.2.2 r hr).1
  exact ⟨fi_ofI (x := pa T r) h.1, by omega⟩
set_option maxHeartbeats 4000000 in
set_option maxRecDepth 100000 in
theorem m_partsNow (D : Nat → Nat → Int32) (J : Nat → Nat → Int64) (T : Nat → Int32) (n : Nat) (hM : MT D 125 T) (v : VT T n) : FI yX7_partsNow cX7_partsNow 4 (some .int) 0 [.ref 124] D J (nI (prts T n)) := by
  refine FI.of (by decide) rfl (Nat.le_of_ble_eq_true rfl) (fun Post hPost => ?_)
  show FV _ _ _ _ _ _ _ _ _ _ _ _ [_, _, _, _] [] _
  have h40 := v.2.1
  have loop2 : ∀ k, k ≤ 6 → FV cX7_partsNow 4 (some .int) yX7_partsNow.cls yX7_partsNow.name 0 0 0 Post 0 0 38 [some (.ref 124), some (.int (nI (msk T n))), some (.int (nI (fb_ct (fun k => (msk T n).testBit k) k))), some (.int (nI k))] [] (lay D J) := by
    refine up_ind (fun k hk ih => ?_)
    refine fv_iload_n (q := 39) dX7_partsNow_38 rfl rfl ?_
    refine fv_bipush (v := 6) (q := 41) dX7_partsNow_39 (by decide) rfl ?_
    refine fv_icmp_ge (q := 44) 58 dX7_partsNow_41 (by decide) rfl (fun c41 => ?_) (fun c41 => ?_)
    · rw [show (6 : Int32) = nI 6 from rfl, nI_leI (by omega) (by omega)] at c41
      have hin : k = 6 := by omega
      subst hin
      refine fv_iload_n (q := 59) dX7_partsNow_58 rfl rfl ?_
      refine fv_iret dX7_partsNow_59 rfl rfl (Nat.le_refl _) ?_
      exact fi_r hPost (by rw [prt_eq v])
    · rw [show (6 : Int32) = nI 6 from rfl, nI_leI (by omega) (by omega)] at c41
      refine fv_iload_n (q := 45) dX7_partsNow_44 rfl rfl ?_
      refine fv_iload_n (q := 46) dX7_partsNow_45 rfl rfl ?_
      refine fv_iload_n (q := 47) dX7_partsNow_46 rfl rfl ?_
      refine fv_ishr (q := 48) dX7_partsNow_47 rfl ?_
      refine fv_iconst (v := 1) (q := 49) dX7_partsNow_48 (by decide) rfl ?_
      refine fv_iand (q := 50) dX7_partsNow_49 rfl ?_
      refine fv_top (shr_p _ (msk_lt v n (Nat.le_refl _)) k (by omega)) ?_
      refine fv_iadd (q := 51) dX7_partsNow_50 rfl ?_
      refine fv_istore_n (i := 2) (q := 52) (l' := [_, _, _, _]) dX7_partsNow_51 rfl (by decide) rfl rfl rfl ?_
      refine fv_iinc (v := _ + 1) (q := 55) (l' := [_, _, _, _]) dX7_partsNow_52 rfl rfl (by decide) rfl rfl rfl ?_
      refine fv_goto 38 dX7_partsNow_55 (by decide) ?_
      rw [nI_1, nI_add]
      exact ih (by omega)
  have loop : ∀ i, i ≤ n → FV cX7_partsNow 4 (some .int) yX7_partsNow.cls yX7_partsNow.name 0 0 0 Post 0 0 4 [some (.ref 124), some (.int (nI (msk T i))), some (.int (nI i)), none] [] (lay D J) := by
    refine up_ind (fun i hi ih => ?_)
    refine fv_iload_n (q := 5) dX7_partsNow_4 rfl rfl ?_
    refine fv_aload_n (q := 6) dX7_partsNow_5 rfl rfl ?_
    refine fl_getR (q := 9) dX7_partsNow_6 fX7_7 sh124 rfl rfl ?_
    refine fv_iconst (v := 0) (q := 10) dX7_partsNow_9 (by decide) rfl ?_
    refine fl_iald (q := 11) 0 dX7_partsNow_10 sh125 (by decide) rfl (by decide) rfl ?_
    refine fv_top (y := nI n) ((hM 0 (by decide)).trans v.1) ?_
    refine fv_icmp_ge (q := 14) 34 dX7_partsNow_11 (by decide) rfl (fun c11 => ?_) (fun c11 => ?_)
    · rw [nI_leI (by omega) (by omega)] at c11
      have hin : i = n := by omega
      subst hin
      refine fv_iconst (v := 0) (q := 35) dX7_partsNow_34 (by decide) rfl ?_
      refine fv_istore_n (i := 2) (q := 36) (l' := [_, _, _, _]) dX7_partsNow_35 rfl (by decide) rfl rfl rfl ?_
      refine fv_iconst (v := 0) (q := 37) dX7_partsNow_36 (by decide) rfl ?_
      refine fv_istore_n (i := 3) (q := 38) (l' := [_, _, _, _]) dX7_partsNow_37 rfl (by decide) rfl rfl rfl ?_
      exact loop2 0 (Nat.zero_le _)
    · rw [nI_leI (by omega) (by omega)] at c11
      refine fv_iload_n (q := 15) dX7_partsNow_14 rfl rfl ?_
      refine fv_iconst (v := 1) (q := 16) dX7_partsNow_15 (by decide) rfl ?_
      refine fv_aload_n (q := 17) dX7_partsNow_16 rfl rfl ?_
      refine fl_getR (q := 20) dX7_partsNow_17 fX7_7 sh124 rfl rfl ?_
      refine fv_bipush (v := 6) (q := 22) dX7_partsNow_20 (by decide) rfl ?_
      refine fv_iload_n (q := 23) dX7_partsNow_22 rfl rfl ?_
      refine fv_iadd (q := 24) dX7_partsNow_23 rfl ?_
      refine fl_iald (q := 25) (6 + i) dX7_partsNow_24 sh125 (by decide) (nI_add 6 i) (by omega) rfl ?_
      refine fv_top (y := nI (pz T i).toNat) ((hM _ (by omega)).trans (pa_nI v (by omega)).1) ?_
      refine fv_ishl (q := 26) dX7_partsNow_25 rfl ?_
      refine fv_top (shl_p _ (pa_nI v (by omega)).2) ?_
      refine fv_ior (q := 27) dX7_partsNow_26 rfl ?_
      refine fv_top (y := nI (msk T (i + 1))) (fa_or _ _) ?_
      refine fv_istore_n (i := 1) (q := 28) (l' := [_, _, _, _]) dX7_partsNow_27 rfl (by decide) rfl rfl rfl ?_
      refine fv_iinc (v := _ + 1) (q := 31) (l' := [_, _, _, _]) dX7_partsNow_28 rfl rfl (by decide) rfl rfl rfl ?_
      refine fv_goto 4 dX7_partsNow_31 (by decide) ?_
      rw [nI_1]
      exact ih (by omega)
  refine fv_iconst (v := 0) (q := 1) dX7_partsNow_0 (by decide) rfl ?_
  refine fv_istore_n (i := 1) (q := 2) (l' := [_, _, _, _]) dX7_partsNow_1 rfl (by decide) rfl rfl rfl ?_
  refine fv_iconst (v := 0) (q := 3) dX7_partsNow_2 (by decide) rfl ?_
  refine fv_istore_n (i := 2) (q := 4) (l' := [_, _, _, _]) dX7_partsNow_3 rfl (by decide) rfl rfl rfl ?_
  exact loop 0 (Nat.zero_le _)
theorem grp_eq {T : Nat → Int32} {n : Nat} : fb_ct (fun k => decide (gf T n (lin T n k) = k)) n = grps T n := by
  unfold grps
  rw [← ct_linN T n (fun r => decide (gf T n r = pos T n r))]
  exact fb_ct_cong (fun k hk => by show decide (gf T n (lin T n k) = k) = decide (gf T n (lin T n k) = pos T n (lin T n k)); rw [pos_lin hk])
set_option maxHeartbeats 4000000 in
set_option maxRecDepth 100000 in
theorem m_groupsNow (D : Nat → Nat → Int32) (J : Nat → Nat → Int64) (T : Nat → Int32) (n : Nat) (hM : MT D 125 T) (v : VT T n) (hL : LaidM D T n) : FI yX7_groupsNow cX7_groupsNow 3 (some .int) 0 [.ref 124] D J (nI (grps T n)) := by
  refine FI.of (by decide) rfl (Nat.le_of_ble_eq_true rfl) (fun Post hPost => ?_)
  show FV _ _ _ _ _ _ _ _ _ _ _ _ [_, _, _] [] _
  have h40 := v.2.1
  have loop : ∀ i, i ≤ n → FV cX7_groupsNow 3 (some .int) yX7_groupsNow.cls yX7_groupsNow.name 0 0 0 Post 0 0 4 [some (.ref 124), some (.int (nI (fb_ct (fun k => decide (gf T n (lin T n k) = k)) i))), some (.int (nI i))] [] (lay D J) := by
    refine up_ind (fun i hi ih => ?_)
    refine fv_iload_n (q := 5) dX7_groupsNow_4 rfl rfl ?_
    refine fv_aload_n (q := 6) dX7_groupsNow_5 rfl rfl ?_
    refine fl_getR (q := 9) dX7_groupsNow_6 fX7_7 sh124 rfl rfl ?_
    refine fv_iconst (v := 0) (q := 10) dX7_groupsNow_9 (by decide) rfl ?_
    refine fl_iald (q := 11) 0 dX7_groupsNow_10 sh125 (by decide) rfl (by decide) rfl ?_
    refine fv_top (y := nI n) ((hM 0 (by decide)).trans v.1) ?_
    refine fv_icmp_ge (q := 14) 43 dX7_groupsNow_11 (by decide) rfl (fun c11 => ?_) (fun c11 => ?_)
    · rw [nI_leI (by omega) (by omega)] at c11
      have hin : i = n := by omega
      subst hin
      refine fv_iload_n (q := 44) dX7_groupsNow_43 rfl rfl ?_
      refine fv_iret dX7_groupsNow_44 rfl rfl (Nat.le_refl _) ?_
      exact fi_r hPost (by rw [grp_eq])
    · rw [nI_leI (by omega) (by omega)] at c11
      refine fv_iload_n (q := 15) dX7_groupsNow_14 rfl rfl ?_
      refine fv_aload_n (q := 16) dX7_groupsNow_15 rfl rfl ?_
      refine fl_getR (q := 19) dX7_groupsNow_16 fX7_41 sh124 rfl rfl ?_
      refine fv_aload_n (q := 20) dX7_groupsNow_19 rfl rfl ?_
      refine fl_getR (q := 23) dX7_groupsNow_20 fX7_29 sh124 rfl rfl ?_
      refine fv_iload_n (q := 24) dX7_groupsNow_23 rfl rfl ?_
      refine fl_iald (q := 25) i dX7_groupsNow_24 sh131 (by decide) rfl (by omega) rfl ?_
      refine fv_top (y := nI (lin T n i)) (hL.1 i (by omega)) ?_
      have hll := lin_lt (T := T) (n := n) (k := i) (by omega)
      have hgl := gf_lt v hll
      refine fl_iald (q := 26) (lin T n i) dX7_groupsNow_25 sh135 (by decide) rfl (by omega) rfl ?_
      refine fv_top (y := nI (gf T n (lin T n i))) (hL.2.2.2.2.1 _ hll) ?_
      refine fv_iload_n (q := 27) dX7_groupsNow_26 rfl rfl ?_
      refine fv_icmp_ne (q := 30) 34 dX7_groupsNow_27 (by decide) rfl (fun c27 => ?_) (fun c27 => ?_)
      · rw [nI_eq (by omega) (by omega)] at c27
        refine fv_iconst (v := 0) (q := 35) dX7_groupsNow_34 (by decide) rfl ?_
        refine fv_iadd (q := 36) dX7_groupsNow_35 rfl ?_
        refine fv_istore_n (i := 1) (q := 37) (l' := [_, _, _]) dX7_groupsNow_36 rfl (by decide) rfl rfl rfl ?_
        refine fv_iinc (v := _ + 1) (q := 40) (l' := [_, _, _]) dX7_groupsNow_37 rfl rfl (by decide) rfl rfl rfl ?_
        refine fv_goto 4 dX7_groupsNow_40 (by decide) ?_
        have h9 := ih (by omega)
        rw [ct_f (p := fun k => decide (gf T n (lin T n k) = k)) (decide_eq_false c27)] at h9
        rw [nI_1, show (0 : Int32) = nI 0 from rfl, nI_add]
        exact h9
      · rw [nI_eq (by omega) (by omega)] at c27
        refine fv_iconst (v := 1) (q := 31) dX7_groupsNow_30 (by decide) rfl ?_
        refine fv_goto 35 dX7_groupsNow_31 (by decide) ?_
        refine fv_iadd (q := 36) dX7_groupsNow_35 rfl ?_
        refine fv_istore_n (i := 1) (q := 37) (l' := [_, _, _]) dX7_groupsNow_36 rfl (by decide) rfl rfl rfl ?_
        refine fv_iinc (v := _ + 1) (q := 40) (l' := [_, _, _]) dX7_groupsNow_37 rfl rfl (by decide) rfl rfl rfl ?_
        refine fv_goto 4 dX7_groupsNow_40 (by decide) ?_
        have h9 := ih (by omega)
        rw [ct_t (p := fun k => decide (gf T n (lin T n k) = k)) (decide_eq_true c27)] at h9
        rw [nI_1, nI_1]
        exact h9
  refine fv_iconst (v := 0) (q := 1) dX7_groupsNow_0 (by decide) rfl ?_
  refine fv_istore_n (i := 1) (q := 2) (l' := [_, _, _]) dX7_groupsNow_1 rfl (by decide) rfl rfl rfl ?_
  refine fv_iconst (v := 0) (q := 3) dX7_groupsNow_2 (by decide) rfl ?_
  refine fv_istore_n (i := 2) (q := 4) (l' := [_, _, _]) dX7_groupsNow_3 rfl (by decide) rfl rfl rfl ?_
  exact loop 0 (Nat.zero_le _)
def BookM (D : Nat → Nat → Int32) (B : List (Nat × Int32 × Int32)) : Prop := D 124 8 = nI B.length ∧ B.length ≤ 20 ∧ ∀ (j : Nat) (q : Nat × Int32 × Int32), B[j]? = some q → q.1 < 40 ∧ D 130 (3 * j) = nI q.1 ∧ D 130 (3 * j + 1) = q.2.1 ∧ D 130 (3 * j + 2) = q.2.2
theorem BookM.of {D D' : Nat → Nat → Int32} {B : List (Nat × Int32 × Int32)} (h : BookM D B) (h0 : D' 124 8 = D 124 8) (h1 : D' 130 = D 130) : BookM D' B := by
  unfold BookM; rw [h0, h1]; exact h
theorem nI_mul3 (i : Nat) : (3 : Int32) * nI i = nI (3 * i) := by
  show nI 3 * nI i = _
  exact (Int32.ofNat_mul 3 i).symm
set_option maxHeartbeats 4000000 in
set_option maxRecDepth 100000 in
theorem m_wrong (D : Nat → Nat → Int32) (J : Nat → Nat → Int64) (T : Nat → Int32) (n : Nat) (hM : MT D 125 T) (v : VT T n) (hL : LaidM D T n) (B : List (Nat × Int32 × Int32)) (hB : BookM D B) : FD yX7_wrong cX7_wrong 3 (some .int) 5 [.ref 124] D J (fun res D' J' => res = some (.int (wrg T n B)) ∧ J' = J ∧ KF D D') := by
  refine FD.of (by decide) rfl (Nat.le_of_ble_eq_true rfl) (fun Post hPost => ?_)
  show FV _ _ _ _ _ _ _ _ _ _ _ _ [_, _, _] [] _
  have h40 := v.2.1
  have hb20 := hB.2.1
  have loop : ∀ i, i ≤ B.length → ∀ (l2 : Option Value) (E : Nat → Nat → Int32), KF D E → (∀ j, j < i → wrE T n B j = false) → FV cX7_wrong 3 (some .int) yX7_wrong.cls yX7_wrong.name 5 0 0 Post 0 0 2 [some (.ref 124), some (.int (nI i)), l2] [] (lay E J) := by
    refine up_ind (fun i hi ih => ?_)
    intro l2 E hK hno
    have hBE : BookM E B := hB.of (hK.1 8 (by decide)) (hK.2 130 (by decide) (by decide) (by decide))
    have hME := hK.mt hM ⟨by decide, by decide⟩
    have hLE := hK.la hL
    refine fv_iload_n (q := 3) dX7_wrong_2 rfl rfl ?_
    refine fv_aload_n (q := 4) dX7_wrong_3 rfl rfl ?_
    refine fl_getI (q := 7) dX7_wrong_4 fX7_128 sh124 rfl rfl ?_
    refine fv_top (y := nI B.length) hBE.1 ?_
    refine fv_icmp_ge (q := 10) 67 dX7_wrong_7 (by decide) rfl (fun c7 => ?_) (fun c7 => ?_)
    · rw [nI_leI (by omega) (by omega)] at c7
      have hin : i = B.length := by omega
      subst hin
      refine fv_iconst (v := (-1)) (q := 68) dX7_wrong_67 (by decide) rfl ?_
      refine fv_iret dX7_wrong_68 rfl rfl (Nat.le_refl _) ?_
      exact hPost _ _ _ ⟨by unfold wrg; rw [first_end hno, if_neg (Nat.lt_irrefl _)], rfl, hK⟩
    · rw [nI_leI (by omega) (by omega)] at c7
      obtain ⟨⟨r, w, u⟩, hq⟩ : ∃ q, B[i]? = some q := ⟨_, List.getElem?_eq_getElem (by omega)⟩
      obtain ⟨q0, q1, q2, q3⟩ := hBE.2.2 i _ hq
      refine fv_aload_n (q := 11) dX7_wrong_10 rfl rfl ?_
      refine fl_getR (q := 14) dX7_wrong_11 fX7_26 sh124 rfl rfl ?_
      refine fv_iconst (v := 3) (q := 15) dX7_wrong_14 (by decide) rfl ?_
      refine fv_iload_n (q := 16) dX7_wrong_15 rfl rfl ?_
      refine fv_imul (q := 17) dX7_wrong_16 rfl ?_
      refine fv_top (nI_mul3 i) ?_
      refine fl_iald (q := 18) (3 * i) dX7_wrong_17 sh130 (by decide) rfl (by omega) rfl ?_
      refine fv_top (y := nI r) q1 ?_
      refine fv_istore_n (i := 2) (q := 19) (l' := [_, _, _]) dX7_wrong_18 rfl (by decide) rfl rfl rfl ?_
      refine fv_aload_n (q := 20) dX7_wrong_19 rfl rfl ?_
      refine fv_iload_n (q := 21) dX7_wrong_20 rfl rfl ?_
      refine fl_callVi (As := [_]) (q := 24) dX7_wrong_21 gX7_131 rfl sh124 rfl rfl (Nat.le_of_ble_eq_true rfl) rfl (by decide) (m_isRow E J T n hME v (nI r)) ?_
      refine fv_if_eq (q := 27) 59 dX7_wrong_24 (by decide) rfl (fun c24 => ?_) (fun c24 => ?_)
      · rw [bi_0] at c24
        have hrn : ¬ r < n := fun z => by rw [okr_j z h40] at c24; cases c24
        refine fv_iload_n (q := 60) dX7_wrong_59 rfl rfl ?_
        refine fv_iret dX7_wrong_60 rfl rfl (Nat.le_refl _) ?_
        have hwr : wrE T n B i = true := by unfold wrE; rw [hq]; simp [hrn]
        exact hPost _ _ _ ⟨by unfold wrg; rw [first_at hno hwr (by omega), if_pos (by omega)], rfl, hK⟩
      · rw [bi_n'] at c24
        have hrn : r < n := by
          obtain ⟨j, h1, h2, _⟩ := okr_t c24 h40
          rw [nI_eq (by omega) (by omega)] at h2
          omega
        refine fv_aload_n (q := 28) dX7_wrong_27 rfl rfl ?_
        refine fv_aload_n (q := 29) dX7_wrong_28 rfl rfl ?_
        refine fl_getR (q := 32) dX7_wrong_29 fX7_7 sh124 rfl rfl ?_
        refine fv_iload_n (q := 33) dX7_wrong_32 rfl rfl ?_
        refine fv_aload_n (q := 34) dX7_wrong_33 rfl rfl ?_
        refine fl_getR (q := 37) dX7_wrong_34 fX7_26 sh124 rfl rfl ?_
        refine fv_iconst (v := 3) (q := 38) dX7_wrong_37 (by decide) rfl ?_
        refine fv_iload_n (q := 39) dX7_wrong_38 rfl rfl ?_
        refine fv_imul (q := 40) dX7_wrong_39 rfl ?_
        refine fv_top (nI_mul3 i) ?_
        refine fv_iconst (v := 1) (q := 41) dX7_wrong_40 (by decide) rfl ?_
        refine fv_iadd (q := 42) dX7_wrong_41 rfl ?_
        refine fv_top (nI_1 _) ?_
        refine fl_iald (q := 43) (3 * i + 1) dX7_wrong_42 sh130 (by decide) rfl (by omega) rfl ?_
        refine fv_top (y := w) q2 ?_
        refine fl_callV (As := [_, _, _]) (q := 46) dX7_wrong_43 gX7_135 rfl sh124 rfl rfl (Nat.le_of_ble_eq_true rfl) rfl (by decide) (m_ofFrame 125 sh125 E J T hME n v ⟨by decide, by decide⟩ hLE r hrn w) (fun res D1 J1 hp => ?_)
        obtain ⟨rfl, rfl, hK2⟩ := hp
        refine fv_aload_n (q := 47) dX7_wrong_46 rfl rfl ?_
        refine fl_getR (q := 50) dX7_wrong_47 fX7_26 sh124 rfl rfl ?_
        refine fv_iconst (v := 3) (q := 51) dX7_wrong_50 (by decide) rfl ?_
        refine fv_iload_n (q := 52) dX7_wrong_51 rfl rfl ?_
        refine fv_imul (q := 53) dX7_wrong_52 rfl ?_
        refine fv_top (nI_mul3 i) ?_
        refine fv_iconst (v := 2) (q := 54) dX7_wrong_53 (by decide) rfl ?_
        refine fv_iadd (q := 55) dX7_wrong_54 rfl ?_
        refine fv_top (nI_add _ 2) ?_
        refine fl_iald (q := 56) (3 * i + 2) dX7_wrong_55 sh130 (by decide) rfl (by omega) rfl ?_
        refine fv_top (y := u) (by rw [hK2.2 130 (by decide) (by decide) (by decide)]; exact q3) ?_
        refine fv_icmp_eq (q := 59) 61 dX7_wrong_56 (by decide) rfl (fun c56 => ?_) (fun c56 => ?_)
        · refine fv_iinc (v := _ + 1) (q := 64) (l' := [_, _, _]) dX7_wrong_61 rfl rfl (by decide) rfl rfl rfl ?_
          refine fv_goto 2 dX7_wrong_64 (by decide) ?_
          have hwr : wrE T n B i = false := by unfold wrE; rw [hq]; simp [hrn, c56]
          rw [nI_1]
          exact ih (by omega) _ D1 (hK.tr hK2) (fun j hj => by
            by_cases e : j = i
            · subst e; exact hwr
            · exact hno j (by omega))
        · refine fv_iload_n (q := 60) dX7_wrong_59 rfl rfl ?_
          refine fv_iret dX7_wrong_60 rfl rfl (Nat.le_refl _) ?_
          have hwr : wrE T n B i = true := by unfold wrE; rw [hq]; simp [c56]
          exact hPost _ _ _ ⟨by unfold wrg; rw [first_at hno hwr (by omega), if_pos (by omega)], rfl, hK.tr hK2⟩
  refine fv_iconst (v := 0) (q := 1) dX7_wrong_0 (by decide) rfl ?_
  refine fv_istore_n (i := 1) (q := 2) (l' := [_, _, _]) dX7_wrong_1 rfl (by decide) rfl rfl rfl ?_
  exact loop 0 (Nat.zero_le _) _ D (KF.rf D) (fun j hj => absurd hj (Nat.not_lt_zero _))
