theorem nI_sp {i : Nat} (h : ¬ nI i ≤ 0) : ∃ k, i = k + 1 := by
  cases i with
  | zero => exact absurd (by decide) h
  | succ k => exact ⟨k, rfl⟩
theorem isb_bf {T : Nat → Int32} {e r : Nat} (h : e < r) : decide ((pa T r).toInt < pz T e ∨ ((pa T r).toInt = pz T e ∧ (okk T (ke T r)).toInt < oz T e)) = bf T r e := by
  unfold bf
  rw [decide_eq_decide]
  show (pz T r < pz T e ∨ (pz T r = pz T e ∧ oz T r < oz T e)) ↔ _
  omega
set_option maxHeartbeats 4000000 in
set_option maxRecDepth 100000 in
theorem c_atI (b : Nat) (hb : LenIx b) (D : Nat → Nat → Int32) (J : Nat → Nat → Int64) (n j : Nat) (hn : D (b + 2) 3 = nI n) (h40 : n ≤ 40) (hj : j < n) : FI yX4_at cX4_at 2 (some .int) 0 [.ref (b + 1), .int (nI j)] D J (D (b + 6) j) := by
  refine FI.of (by decide) rfl (Nat.le_of_ble_eq_true rfl) (fun Post hPost => ?_)
  show FV _ _ _ _ _ _ _ _ _ _ _ _ [_, _] [] _
  refine fv_iload_n (q := 1) dX4_at_0 rfl rfl ?_
  refine fv_if_lt (q := 4) 24 dX4_at_1 (by decide) rfl (fun c1 => absurd c1 (nI_pos (by omega))) (fun c1 => ?_)
  refine fv_iload_n (q := 5) dX4_at_4 rfl rfl ?_
  refine fv_aload_n (q := 6) dX4_at_5 rfl rfl ?_
  refine fl_getR (q := 9) dX4_at_6 fX4_12 hb.ord rfl rfl ?_
  refine fl_getI (q := 12) dX4_at_9 fX4_34 hb.tab.sh.1 rfl rfl ?_
  refine fv_icmp_ge (q := 15) 24 dX4_at_12 (by decide) rfl (fun c12 => absurd c12 (by rw [hn]; exact nI_ge hj (by omega))) (fun c12 => ?_)
  refine fv_aload_n (q := 16) dX4_at_15 rfl rfl ?_
  refine fl_getR (q := 19) dX4_at_16 fX4_18 hb.ord rfl rfl ?_
  refine fv_iload_n (q := 20) dX4_at_19 rfl rfl ?_
  refine fl_iald (q := 21) _ dX4_at_20 hb.arr.1 (by decide) rfl (by omega) rfl ?_
  refine fv_goto 25 dX4_at_21 (by decide) ?_
  refine fv_iret dX4_at_25 rfl rfl (Nat.le_refl _) ?_
  exact hPost
set_option maxHeartbeats 4000000 in
set_option maxRecDepth 100000 in
theorem c_atO (b : Nat) (hb : LenIx b) (D : Nat → Nat → Int32) (J : Nat → Nat → Int64) (n : Nat) (hn : D (b + 2) 3 = nI n) (k : Int32) (hk : k < 0 ∨ nI n ≤ k) : FI yX4_at cX4_at 2 (some .int) 0 [.ref (b + 1), .int k] D J (-1) := by
  refine FI.of (by decide) rfl (Nat.le_of_ble_eq_true rfl) (fun Post hPost => ?_)
  show FV _ _ _ _ _ _ _ _ _ _ _ _ [_, _] [] _
  refine fv_iload_n (q := 1) dX4_at_0 rfl rfl ?_
  refine fv_if_lt (q := 4) 24 dX4_at_1 (by decide) rfl (fun c1 => ?_) (fun c1 => ?_)
  · refine fv_iconst (v := (-1)) (q := 25) dX4_at_24 (by decide) rfl ?_
    refine fv_iret dX4_at_25 rfl rfl (Nat.le_refl _) ?_
    exact hPost
  · refine fv_iload_n (q := 5) dX4_at_4 rfl rfl ?_
    refine fv_aload_n (q := 6) dX4_at_5 rfl rfl ?_
    refine fl_getR (q := 9) dX4_at_6 fX4_12 hb.ord rfl rfl ?_
    refine fl_getI (q := 12) dX4_at_9 fX4_34 hb.tab.sh.1 rfl rfl ?_
    refine fv_icmp_ge (q := 15) 24 dX4_at_12 (by decide) rfl (fun c12 => ?_) (fun c12 => absurd (by rcases hk with h | h; exact absurd h c1; rw [hn]; exact h) c12)
    refine fv_iconst (v := (-1)) (q := 25) dX4_at_24 (by decide) rfl ?_
    refine fv_iret dX4_at_25 rfl rfl (Nat.le_refl _) ?_
    exact hPost
set_option maxHeartbeats 4000000 in
set_option maxRecDepth 100000 in
theorem c_sort (b : Nat) (hb : LenIx b) (D : Nat → Nat → Int32) (J : Nat → Nat → Int64) (T : Nat → Int32) (n : Nat) (hT : TabOf D (b + 2) T) (v : VT T n) : FD yX4_sort cX4_sort 3 none 2 [.ref (b + 1)] D J (fun res D' J' => res = none ∧ J' = J ∧ (∀ j, j < n → D' (b + 6) j = nI (lin T n j)) ∧ ∀ a, a ≠ b + 6 → D' a = D a) := by
  refine FD.of (by decide) rfl (Nat.le_of_ble_eq_true rfl) (fun Post hPost => ?_)
  show FV _ _ _ _ _ _ _ _ _ _ _ _ [_, _, _] [] _
  have h40 := v.2.1
  have outer : ∀ r, r ≤ n → ∀ (l2 : Option Value) (E : Nat → Nat → Int32), (∀ a, a ≠ b + 6 → E a = D a) → (∀ j, j < r → E (b + 6) j = nI (lin T r j)) → FV cX4_sort 3 none yX4_sort.cls yX4_sort.name 2 0 0 Post 0 0 2 [some (.ref (b + 1)), some (.int (nI r)), l2] [] (lay E J) := by
    refine up_ind (fun r hr ih => ?_)
    intro l2 E hfE hs
    have fin : ∀ i, i ≤ r → ∀ E : Nat → Nat → Int32, (∀ a, a ≠ b + 6 → E a = D a) → ivR T r i (E (b + 6)) → (0 < i → bf T r (lin T r (i - 1)) = false) → r < n → FV cX4_sort 3 none yX4_sort.cls yX4_sort.name 2 0 0 Post 0 0 75 [some (.ref (b + 1)), some (.int (nI r)), some (.int (nI i))] [] (lay E J) := by
      intro i hi E hfE hv hbf hrn
      refine fv_aload_n (q := 76) dX4_sort_75 rfl rfl ?_
      refine fl_getR (q := 79) dX4_sort_76 fX4_18 hb.ord rfl rfl ?_
      refine fv_iload_n (q := 80) dX4_sort_79 rfl rfl ?_
      refine fv_iload_n (q := 81) dX4_sort_80 rfl rfl ?_
      refine fl_iast (q := 82) _ dX4_sort_81 hb.arr.1 (by decide) rfl (by omega) rfl ?_
      refine fv_iinc (v := _ + 1) (q := 85) (l' := [_, _, _]) dX4_sort_82 rfl rfl (by decide) rfl rfl rfl ?_
      refine fv_goto 2 dX4_sort_85 (by decide) ?_
      rw [nI_1]
      refine ih (by omega) _ _ (fun a ha => by rw [up_n _ _ _ ha]; exact hfE a ha) (fun j hj => ?_)
      rw [up_s]
      exact ivR_e hv hi hbf j (by omega)
    have inner : ∀ i, i ≤ r → r < n → ∀ E : Nat → Nat → Int32, (∀ a, a ≠ b + 6 → E a = D a) → ivR T r i (E (b + 6)) → FV cX4_sort 3 none yX4_sort.cls yX4_sort.name 2 0 0 Post 0 0 15 [some (.ref (b + 1)), some (.int (nI r)), some (.int (nI i))] [] (lay E J) := by
      refine dn_ind (fun i ih2 => ?_)
      intro hi hrn E hfE hv
      refine fv_iload_n (q := 16) dX4_sort_15 rfl rfl ?_
      refine fv_if_le (q := 19) 75 dX4_sort_16 (by decide) rfl (fun c16 => ?_) (fun c16 => ?_)
      · have hi0 : i = 0 := by rcases Nat.eq_zero_or_pos i with q | q; exact q; exact absurd c16 (nI_nle q (by omega))
        exact fin _ hi _ hfE hv (fun q => by omega) hrn
      · obtain ⟨i, rfl⟩ := nI_sp c16
        have hTE : TabOf E (b + 2) T := hT.of (hfE _ (by omega)) (hfE _ (by omega)) (hfE _ (by omega)) (hfE _ (by omega))
        have hl := lin_lt (T := T) (n := r) (k := i) (by omega)
        refine fv_aload_n (q := 20) dX4_sort_19 rfl rfl ?_
        refine fl_getR (q := 23) dX4_sort_20 fX4_12 hb.ord rfl rfl ?_
        refine fv_aload_n (q := 24) dX4_sort_23 rfl rfl ?_
        refine fl_getR (q := 27) dX4_sort_24 fX4_12 hb.ord rfl rfl ?_
        refine fl_getR (q := 30) dX4_sort_27 fX4_42 hb.tab.sh.1 rfl rfl ?_
        refine fv_iload_n (q := 31) dX4_sort_30 rfl rfl ?_
        refine fl_iald (q := 32) _ dX4_sort_31 hb.tab.sh.2.1 (by decide) rfl (by omega) rfl ?_
        refine fv_top (y := pa T r) (hTE.2.1 r (by omega)) ?_
        refine fv_aload_n (q := 33) dX4_sort_32 rfl rfl ?_
        refine fl_getR (q := 36) dX4_sort_33 fX4_12 hb.ord rfl rfl ?_
        refine fl_getR (q := 39) dX4_sort_36 fX4_45 hb.tab.sh.1 rfl rfl ?_
        refine fv_iload_n (q := 40) dX4_sort_39 rfl rfl ?_
        refine fl_iald (q := 41) _ dX4_sort_40 hb.tab.sh.2.2.1 (by decide) rfl (by omega) rfl ?_
        refine fv_top (y := ke T r) (hTE.2.2.1 r (by omega)) ?_
        refine fv_aload_n (q := 42) dX4_sort_41 rfl rfl ?_
        refine fl_getR (q := 45) dX4_sort_42 fX4_18 hb.ord rfl rfl ?_
        refine fv_iload_n (q := 46) dX4_sort_45 rfl rfl ?_
        refine fv_iconst (v := 1) (q := 47) dX4_sort_46 (by decide) rfl ?_
        refine fv_isub (q := 48) dX4_sort_47 rfl ?_
        refine fv_top (nI_pred i) ?_
        refine fl_iald (q := 49) _ dX4_sort_48 hb.arr.1 (by decide) rfl (by omega) rfl ?_
        refine fv_top (hv.1 i (by omega)) ?_
        refine fl_callVi (As := [_, _, _]) (q := 52) dX4_sort_49 gX4_48 rfl hb.tab.sh.1 rfl rfl (Nat.le_of_ble_eq_true rfl) rfl (by decide) (c_isBefore (b + 2) hb.tab E J T hTE v.2.2.1 _ _ (lin T r i) (by omega)) ?_
        refine fv_top (y := bi (bf T r (lin T r i))) (by rw [isb_bf hl]) ?_
        refine fv_if_eq (q := 55) 75 dX4_sort_52 (by decide) rfl (fun c52 => ?_) (fun c52 => ?_)
        · rw [bi_0] at c52
          exact fin _ hi _ hfE hv (fun _ => c52) hrn
        · rw [bi_n'] at c52
          refine fv_aload_n (q := 56) dX4_sort_55 rfl rfl ?_
          refine fl_getR (q := 59) dX4_sort_56 fX4_18 hb.ord rfl rfl ?_
          refine fv_iload_n (q := 60) dX4_sort_59 rfl rfl ?_
          refine fv_aload_n (q := 61) dX4_sort_60 rfl rfl ?_
          refine fl_getR (q := 64) dX4_sort_61 fX4_18 hb.ord rfl rfl ?_
          refine fv_iload_n (q := 65) dX4_sort_64 rfl rfl ?_
          refine fv_iconst (v := 1) (q := 66) dX4_sort_65 (by decide) rfl ?_
          refine fv_isub (q := 67) dX4_sort_66 rfl ?_
          refine fv_top (nI_pred i) ?_
          refine fl_iald (q := 68) _ dX4_sort_67 hb.arr.1 (by decide) rfl (by omega) rfl ?_
          refine fl_iast (q := 69) _ dX4_sort_68 hb.arr.1 (by decide) rfl (by omega) rfl ?_
          refine fv_iinc (v := _ + (-1)) (q := 72) (l' := [_, _, _]) dX4_sort_69 rfl rfl (by decide) rfl rfl rfl ?_
          refine fv_goto 15 dX4_sort_72 (by decide) ?_
          rw [pk_m1]
          refine ih2 (by omega) (by omega) hrn _ (fun a ha => by rw [up_n _ _ _ ha]; exact hfE a ha) ?_
          rw [up_s]
          exact ivR_s hv hi c52
    refine fv_iload_n (q := 3) dX4_sort_2 rfl rfl ?_
    refine fv_aload_n (q := 4) dX4_sort_3 rfl rfl ?_
    refine fl_getR (q := 7) dX4_sort_4 fX4_12 hb.ord rfl rfl ?_
    refine fl_getI (q := 10) dX4_sort_7 fX4_34 hb.tab.sh.1 rfl rfl ?_
    refine fv_top (y := nI n) (by rw [hfE _ (by omega)]; exact hT.n v) ?_
    refine fv_icmp_ge (q := 13) 88 dX4_sort_10 (by decide) rfl (fun c10 => ?_) (fun c10 => ?_)
    · rw [nI_leI (by omega) (by omega)] at c10
      have hrn : r = n := by omega
      subst hrn
      refine fv_vret dX4_sort_88 rfl rfl (Nat.le_refl _) ?_
      exact hPost _ _ _ ⟨rfl, rfl, hs, hfE⟩
    · rw [nI_leI (by omega) (by omega)] at c10
      refine fv_iload_n (q := 14) dX4_sort_13 rfl rfl ?_
      refine fv_istore_n (i := 2) (q := 15) (l' := [_, _, _]) dX4_sort_14 rfl (by decide) rfl rfl rfl ?_
      exact inner r (Nat.le_refl _) (by omega) _ hfE (ivR_0 hs)
  refine fv_iconst (v := 0) (q := 1) dX4_sort_0 (by decide) rfl ?_
  refine fv_istore_n (i := 1) (q := 2) (l' := [_, _, _]) dX4_sort_1 rfl (by decide) rfl rfl rfl ?_
  exact outer 0 (Nat.zero_le _) _ D (fun _ _ => rfl) (fun j hj => absurd hj (Nat.not_lt_zero _))
def NumI (T : Nat → Int32) (n i : Nat) (f7 f8 f9 : Nat → Int32) : Prop := ∀ k, k < i → f7 (lin T n k) = nI k ∧ f8 (lin T n k) = nI (k - pf T n (lin T n k)) ∧ f9 (lin T n k) = nI (grk T n k)
theorem NumI_s {T : Nat → Int32} {n i : Nat} {f7 f8 f9 : Nat → Int32} (h : NumI T n i f7 f8 f9) (hi : i < n) {p g : Int32} (hp : p = nI (i - pf T n (lin T n i))) (hg : g = nI (grk T n i)) : NumI T n (i + 1) (upd f7 (lin T n i) (nI i)) (upd f8 (lin T n i) p) (upd f9 (lin T n i) g) := by
  intro k hk
  by_cases e : k = i
  · subst e
    rw [pk_us, pk_us, pk_us]
    exact ⟨rfl, hp, hg⟩
  · have hne : lin T n k ≠ lin T n i := fun z => e (by rw [← pos_lin (T := T) (n := n) (k := k) (by omega), z, pos_lin hi])
    rw [pk_un hne, pk_un hne, pk_un hne]
    exact h k (by omega)
theorem NumI_ord {D : Nat → Nat → Int32} {b n : Nat} {T : Nat → Int32} (hs : ∀ j, j < n → D (b + 6) j = nI (lin T n j)) (h : NumI T n n (D (b + 7)) (D (b + 8)) (D (b + 9))) : OrdOf D b T n := by
  refine ⟨hs, fun r hr => ?_, fun r hr => ?_, fun r hr => ?_⟩ <;> have := h (pos T n r) (pos_lt hr) <;> rw [lin_pos hr] at this
  · exact this.1
  · exact this.2.1
  · exact this.2.2
theorem num_pf {T : Nat → Int32} {n i : Nat} (hi : i + 1 < n) (h : pa T (lin T n i) = pa T (lin T n (i + 1))) : i - pf T n (lin T n i) + 1 = i + 1 - pf T n (lin T n (i + 1)) := by
  have h1 := pos_part (T := T) (lin_lt (T := T) (n := n) (k := i) (by omega))
  rw [pos_lin (by omega)] at h1
  rw [← pf_eq h]
  omega
set_option maxHeartbeats 4000000 in
set_option maxRecDepth 100000 in
theorem c_number (b : Nat) (hb : LenIx b) (D : Nat → Nat → Int32) (J : Nat → Nat → Int64) (T : Nat → Int32) (n : Nat) (hT : TabOf D (b + 2) T) (v : VT T n) (hs : ∀ j, j < n → D (b + 6) j = nI (lin T n j)) (i : Nat) (hi : i < n) (hN : NumI T n i (D (b + 7)) (D (b + 8)) (D (b + 9))) : FD yX4_number cX4_number 4 none 1 [.ref (b + 1), .int (nI i)] D J (fun res D' J' => res = none ∧ J' = J ∧ NumI T n (i + 1) (D' (b + 7)) (D' (b + 8)) (D' (b + 9)) ∧ ∀ a, a ≠ b + 7 → a ≠ b + 8 → a ≠ b + 9 → D' a = D a) := by
  refine FD.of (by decide) rfl (Nat.le_of_ble_eq_true rfl) (fun Post hPost => ?_)
  show FV _ _ _ _ _ _ _ _ _ _ _ _ [_, _, _, _] [] _
  have h40 := v.2.1
  refine fv_aload_n (q := 1) dX4_number_0 rfl rfl ?_
  refine fl_getR (q := 4) dX4_number_1 fX4_18 hb.ord rfl rfl ?_
  refine fv_iload_n (q := 5) dX4_number_4 rfl rfl ?_
  refine fl_iald (q := 6) _ dX4_number_5 hb.arr.1 (by decide) rfl (by omega) rfl ?_
  refine fv_top (hs i hi) ?_
  have hx := lin_lt (T := T) hi
  refine fv_istore_n (i := 2) (q := 7) (l' := [_, _, _, _]) dX4_number_6 rfl (by decide) rfl rfl rfl ?_
  refine fv_aload_n (q := 8) dX4_number_7 rfl rfl ?_
  refine fl_getR (q := 11) dX4_number_8 fX4_22 hb.ord rfl rfl ?_
  refine fv_iload_n (q := 12) dX4_number_11 rfl rfl ?_
  refine fv_iload_n (q := 13) dX4_number_12 rfl rfl ?_
  refine fl_iast (q := 14) _ dX4_number_13 hb.arr.2.1 (by decide) rfl (by omega) rfl ?_
  refine fv_aload_n (q := 15) dX4_number_14 rfl rfl ?_
  refine fl_getR (q := 18) dX4_number_15 fX4_25 hb.ord rfl rfl ?_
  refine fv_iload_n (q := 19) dX4_number_18 rfl rfl ?_
  refine fv_iconst (v := 0) (q := 20) dX4_number_19 (by decide) rfl ?_
  refine fl_iast (q := 21) _ dX4_number_20 hb.arr.2.2.1 (by decide) rfl (by omega) rfl ?_
  refine fv_aload_n (q := 22) dX4_number_21 rfl rfl ?_
  refine fl_getR (q := 25) dX4_number_22 fX4_28 hb.ord rfl rfl ?_
  refine fv_iload_n (q := 26) dX4_number_25 rfl rfl ?_
  refine fv_iconst (v := 0) (q := 27) dX4_number_26 (by decide) rfl ?_
  refine fl_iast (q := 28) _ dX4_number_27 hb.arr.2.2.2.1 (by decide) rfl (by omega) rfl ?_
  refine fv_iload_n (q := 29) dX4_number_28 rfl rfl ?_
  refine fv_if_le (q := 32) 118 dX4_number_29 (by decide) rfl (fun c29 => ?_) (fun c29 => ?_)
  · have hi0 : i = 0 := by rcases Nat.eq_zero_or_pos i with q | q; exact q; exact absurd c29 (nI_nle q (by omega))
    subst hi0
    refine fv_vret dX4_number_118 rfl rfl (Nat.le_refl _) ?_
    refine hPost _ _ _ ⟨rfl, rfl, ?_, fun a h7 h8 h9 => by rw [up_n _ _ _ h9, up_n _ _ _ h8, up_n _ _ _ h7]⟩
    rw [up_n _ _ _ (show b + 7 ≠ b + 9 by omega), up_n _ _ _ (show b + 7 ≠ b + 8 by omega), up_s, up_n _ _ _ (show b + 8 ≠ b + 9 by omega), up_s, up_n _ _ _ (show b + 8 ≠ b + 7 by omega), up_s, up_n _ _ _ (show b + 9 ≠ b + 8 by omega), up_n _ _ _ (show b + 9 ≠ b + 7 by omega)]
    exact NumI_s hN hi (by rw [Nat.zero_sub]; rfl) rfl
  · obtain ⟨i, rfl⟩ := nI_sp c29
    have hl := lin_lt (T := T) (n := n) (k := i) (by omega)
    refine fv_aload_n (q := 33) dX4_number_32 rfl rfl ?_
    refine fl_getR (q := 36) dX4_number_33 fX4_12 hb.ord rfl rfl ?_
    refine fl_getR (q := 39) dX4_number_36 fX4_42 hb.tab.sh.1 rfl rfl ?_
    refine fv_aload_n (q := 40) dX4_number_39 rfl rfl ?_
    refine fl_getR (q := 43) dX4_number_40 fX4_18 hb.ord rfl rfl ?_
    refine fv_iload_n (q := 44) dX4_number_43 rfl rfl ?_
    refine fv_iconst (v := 1) (q := 45) dX4_number_44 (by decide) rfl ?_
    refine fv_isub (q := 46) dX4_number_45 rfl ?_
    refine fv_top (nI_pred i) ?_
    refine fl_iald (q := 47) _ dX4_number_46 hb.arr.1 (by decide) rfl (by omega) rfl ?_
    refine fv_top (y := nI (lin T n i)) (by rw [up_n _ _ _ (show b + 6 ≠ b + 9 by omega), up_n _ _ _ (show b + 6 ≠ b + 8 by omega), up_n _ _ _ (show b + 6 ≠ b + 7 by omega)]; exact hs i (by omega)) ?_
    refine fl_iald (q := 48) _ dX4_number_47 hb.tab.sh.2.1 (by decide) rfl (by omega) rfl ?_
    refine fv_top (y := pa T (lin T n i)) (by rw [up_n _ _ _ (by omega), up_n _ _ _ (by omega), up_n _ _ _ (by omega)]; exact hT.2.1 _ (by omega)) ?_
    refine fv_aload_n (q := 49) dX4_number_48 rfl rfl ?_
    refine fl_getR (q := 52) dX4_number_49 fX4_12 hb.ord rfl rfl ?_
    refine fl_getR (q := 55) dX4_number_52 fX4_42 hb.tab.sh.1 rfl rfl ?_
    refine fv_iload_n (q := 56) dX4_number_55 rfl rfl ?_
    refine fl_iald (q := 57) _ dX4_number_56 hb.tab.sh.2.1 (by decide) rfl (by omega) rfl ?_
    refine fv_top (y := pa T (lin T n (i + 1))) (by rw [up_n _ _ _ (by omega), up_n _ _ _ (by omega), up_n _ _ _ (by omega)]; exact hT.2.1 _ (by omega)) ?_
    refine fv_icmp_ne (q := 60) 118 dX4_number_57 (by decide) rfl (fun c57 => ?_) (fun c57 => ?_)
    · refine fv_vret dX4_number_118 rfl rfl (Nat.le_refl _) ?_
      refine hPost _ _ _ ⟨rfl, rfl, ?_, fun a h7 h8 h9 => by rw [up_n _ _ _ h9, up_n _ _ _ h8, up_n _ _ _ h7]⟩
      rw [up_n _ _ _ (show b + 7 ≠ b + 9 by omega), up_n _ _ _ (show b + 7 ≠ b + 8 by omega), up_s, up_n _ _ _ (show b + 8 ≠ b + 9 by omega), up_s, up_n _ _ _ (show b + 8 ≠ b + 7 by omega), up_s, up_n _ _ _ (show b + 9 ≠ b + 8 by omega), up_n _ _ _ (show b + 9 ≠ b + 7 by omega)]
      exact NumI_s hN hi (by rw [pf_first hi (fun _ => c57), Nat.sub_self]; rfl) (by rw [grk, if_neg c57]; rfl)
    · refine fv_aload_n (q := 61) dX4_number_60 rfl rfl ?_
      refine fl_getR (q := 64) dX4_number_61 fX4_18 hb.ord rfl rfl ?_
      refine fv_iload_n (q := 65) dX4_number_64 rfl rfl ?_
      refine fv_iconst (v := 1) (q := 66) dX4_number_65 (by decide) rfl ?_
      refine fv_isub (q := 67) dX4_number_66 rfl ?_
      refine fv_top (nI_pred i) ?_
      refine fl_iald (q := 68) _ dX4_number_67 hb.arr.1 (by decide) rfl (by omega) rfl ?_
      refine fv_top (y := nI (lin T n i)) (by rw [up_n _ _ _ (show b + 6 ≠ b + 9 by omega), up_n _ _ _ (show b + 6 ≠ b + 8 by omega), up_n _ _ _ (show b + 6 ≠ b + 7 by omega)]; exact hs i (by omega)) ?_
      have hne : lin T n i ≠ lin T n (i + 1) := fun z => by
        have := pos_lin (T := T) (n := n) (k := i) (by omega)
        rw [z, pos_lin hi] at this
        omega
      refine fv_istore_n (i := 3) (q := 69) (l' := [_, _, _, _]) dX4_number_68 rfl (by decide) rfl rfl rfl ?_
      refine fv_aload_n (q := 70) dX4_number_69 rfl rfl ?_
      refine fl_getR (q := 73) dX4_number_70 fX4_25 hb.ord rfl rfl ?_
      refine fv_iload_n (q := 74) dX4_number_73 rfl rfl ?_
      refine fv_aload_n (q := 75) dX4_number_74 rfl rfl ?_
      refine fl_getR (q := 78) dX4_number_75 fX4_25 hb.ord rfl rfl ?_
      refine fv_iload_n (q := 79) dX4_number_78 rfl rfl ?_
      refine fl_iald (q := 80) _ dX4_number_79 hb.arr.2.2.1 (by decide) rfl (by omega) rfl ?_
      refine fv_top (y := nI (i - pf T n (lin T n i))) (by rw [up_n _ _ _ (show b + 8 ≠ b + 9 by omega), up_s, pk_un hne, up_n _ _ _ (show b + 8 ≠ b + 7 by omega)]; exact (hN i (by omega)).2.1) ?_
      refine fv_iconst (v := 1) (q := 81) dX4_number_80 (by decide) rfl ?_
      refine fv_iadd (q := 82) dX4_number_81 rfl ?_
      refine fv_top (y := nI (i + 1 - pf T n (lin T n (i + 1)))) (by rw [nI_1, num_pf hi c57]) ?_
      refine fl_iast (q := 83) _ dX4_number_82 hb.arr.2.2.1 (by decide) rfl (by omega) rfl ?_
      refine fv_aload_n (q := 84) dX4_number_83 rfl rfl ?_
      refine fl_getR (q := 87) dX4_number_84 fX4_28 hb.ord rfl rfl ?_
      refine fv_iload_n (q := 88) dX4_number_87 rfl rfl ?_
      refine fv_aload_n (q := 89) dX4_number_88 rfl rfl ?_
      refine fl_getR (q := 92) dX4_number_89 fX4_12 hb.ord rfl rfl ?_
      refine fv_iload_n (q := 93) dX4_number_92 rfl rfl ?_
      refine fv_iload_n (q := 94) dX4_number_93 rfl rfl ?_
      have hTE : TabOf (up (up (up (up D (b + 7) (lin T n (i + 1)) (nI (i + 1))) (b + 8) (lin T n (i + 1)) 0) (b + 9) (lin T n (i + 1)) 0) (b + 8) (lin T n (i + 1)) (nI (i + 1 - pf T n (lin T n (i + 1))))) (b + 2) T := hT.of (by rw [up_n _ _ _ (by omega), up_n _ _ _ (by omega), up_n _ _ _ (by omega), up_n _ _ _ (by omega)]) (by rw [up_n _ _ _ (by omega), up_n _ _ _ (by omega), up_n _ _ _ (by omega), up_n _ _ _ (by omega)]) (by rw [up_n _ _ _ (by omega), up_n _ _ _ (by omega), up_n _ _ _ (by omega), up_n _ _ _ (by omega)]) (by rw [up_n _ _ _ (by omega), up_n _ _ _ (by omega), up_n _ _ _ (by omega), up_n _ _ _ (by omega)])
      refine fl_callVi (As := [_, _]) (q := 97) dX4_number_94 gX4_52 rfl hb.tab.sh.1 rfl rfl (Nat.le_of_ble_eq_true rfl) rfl (by decide) (c_arePeers (b + 2) hb.tab _ J T hTE _ _ (by omega) (by omega)) ?_
      refine fv_if_eq (q := 100) 109 dX4_number_97 (by decide) rfl (fun c97 => ?_) (fun c97 => ?_)
      · rw [bi_0, c57] at c97
        refine fv_aload_n (q := 110) dX4_number_109 rfl rfl ?_
        refine fl_getR (q := 113) dX4_number_110 fX4_28 hb.ord rfl rfl ?_
        refine fv_iload_n (q := 114) dX4_number_113 rfl rfl ?_
        refine fl_iald (q := 115) _ dX4_number_114 hb.arr.2.2.2.1 (by decide) rfl (by omega) rfl ?_
        refine fv_top (y := nI (grk T n i)) (by rw [up_n _ _ _ (show b + 9 ≠ b + 8 by omega), up_s, pk_un hne, up_n _ _ _ (show b + 9 ≠ b + 8 by omega), up_n _ _ _ (show b + 9 ≠ b + 7 by omega)]; exact (hN i (by omega)).2.2) ?_
        refine fv_iconst (v := 1) (q := 116) dX4_number_115 (by decide) rfl ?_
        refine fv_iadd (q := 117) dX4_number_116 rfl ?_
        refine fv_top (nI_1 _) ?_
        refine fl_iast (q := 118) _ dX4_number_117 hb.arr.2.2.2.1 (by decide) rfl (by omega) rfl ?_
        refine fv_vret dX4_number_118 rfl rfl (Nat.le_refl _) ?_
        refine hPost _ _ _ ⟨rfl, rfl, ?_, fun a h7 h8 h9 => by rw [up_n _ _ _ h9, up_n _ _ _ h8, up_n _ _ _ h9, up_n _ _ _ h8, up_n _ _ _ h7]⟩
        rw [up_n _ _ _ (show b + 7 ≠ b + 9 by omega), up_n _ _ _ (show b + 7 ≠ b + 8 by omega), up_n _ _ _ (show b + 7 ≠ b + 9 by omega), up_n _ _ _ (show b + 7 ≠ b + 8 by omega), up_s, up_n _ _ _ (show b + 8 ≠ b + 9 by omega), up_s, up_n _ _ _ (show b + 8 ≠ b + 9 by omega), up_s, up_n _ _ _ (show b + 8 ≠ b + 7 by omega), up_s, up_n _ _ _ (show b + 9 ≠ b + 8 by omega), up_s, up_n _ _ _ (show b + 9 ≠ b + 8 by omega), up_n _ _ _ (show b + 9 ≠ b + 7 by omega), fa_upd_twice, fa_upd_twice]
        refine NumI_s hN hi rfl ?_
        rw [grk, if_pos c57, if_neg (fun z => by rw [z] at c97; simp at c97)]
      · rw [bi_n', c57] at c97
        refine fv_aload_n (q := 101) dX4_number_100 rfl rfl ?_
        refine fl_getR (q := 104) dX4_number_101 fX4_28 hb.ord rfl rfl ?_
        refine fv_iload_n (q := 105) dX4_number_104 rfl rfl ?_
        refine fl_iald (q := 106) _ dX4_number_105 hb.arr.2.2.2.1 (by decide) rfl (by omega) rfl ?_
        refine fv_top (y := nI (grk T n i)) (by rw [up_n _ _ _ (show b + 9 ≠ b + 8 by omega), up_s, pk_un hne, up_n _ _ _ (show b + 9 ≠ b + 8 by omega), up_n _ _ _ (show b + 9 ≠ b + 7 by omega)]; exact (hN i (by omega)).2.2) ?_
        refine fv_goto 117 dX4_number_106 (by decide) ?_
        refine fl_iast (q := 118) _ dX4_number_117 hb.arr.2.2.2.1 (by decide) rfl (by omega) rfl ?_
        refine fv_vret dX4_number_118 rfl rfl (Nat.le_refl _) ?_
        refine hPost _ _ _ ⟨rfl, rfl, ?_, fun a h7 h8 h9 => by rw [up_n _ _ _ h9, up_n _ _ _ h8, up_n _ _ _ h9, up_n _ _ _ h8, up_n _ _ _ h7]⟩
        rw [up_n _ _ _ (show b + 7 ≠ b + 9 by omega), up_n _ _ _ (show b + 7 ≠ b + 8 by omega), up_n _ _ _ (show b + 7 ≠ b + 9 by omega), up_n _ _ _ (show b + 7 ≠ b + 8 by omega), up_s, up_n _ _ _ (show b + 8 ≠ b + 9 by omega), up_s, up_n _ _ _ (show b + 8 ≠ b + 9 by omega), up_s, up_n _ _ _ (show b + 8 ≠ b + 7 by omega), up_s, up_n _ _ _ (show b + 9 ≠ b + 8 by omega), up_s, up_n _ _ _ (show b + 9 ≠ b + 8 by omega), up_n _ _ _ (show b + 9 ≠ b + 7 by omega), fa_upd_twice, fa_upd_twice]
        refine NumI_s hN hi rfl ?_
        rw [grk, if_pos c57, if_pos (by simpa using c97)]
set_option maxHeartbeats 4000000 in
set_option maxRecDepth 100000 in
theorem c_settle (b : Nat) (hb : LenIx b) (D : Nat → Nat → Int32) (J : Nat → Nat → Int64) (T : Nat → Int32) (n : Nat) (hT : TabOf D (b + 2) T) (v : VT T n) : FD yX4_settle cX4_settle 2 none 3 [.ref (b + 1)] D J (fun res D' J' => res = none ∧ J' = J ∧ OrdOf D' b T n ∧ ∀ a, a ≠ b + 6 → a ≠ b + 7 → a ≠ b + 8 → a ≠ b + 9 → D' a = D a) := by
  refine FD.of (by decide) rfl (Nat.le_of_ble_eq_true rfl) (fun Post hPost => ?_)
  show FV _ _ _ _ _ _ _ _ _ _ _ _ [_, _] [] _
  have h40 := v.2.1
  have loop : ∀ i, i ≤ n → ∀ E : Nat → Nat → Int32, (∀ j, j < n → E (b + 6) j = nI (lin T n j)) → NumI T n i (E (b + 7)) (E (b + 8)) (E (b + 9)) → (∀ a, a ≠ b + 6 → a ≠ b + 7 → a ≠ b + 8 → a ≠ b + 9 → E a = D a) → FV cX4_settle 2 none yX4_settle.cls yX4_settle.name 3 0 0 Post 0 0 6 [some (.ref (b + 1)), some (.int (nI i))] [] (lay E J) := by
    refine up_ind (fun i hi ih => ?_)
    intro E hs hN hf
    refine fv_iload_n (q := 7) dX4_settle_6 rfl rfl ?_
    refine fv_aload_n (q := 8) dX4_settle_7 rfl rfl ?_
    refine fl_getR (q := 11) dX4_settle_8 fX4_12 hb.ord rfl rfl ?_
    refine fl_getI (q := 14) dX4_settle_11 fX4_34 hb.tab.sh.1 rfl rfl ?_
    refine fv_top (y := nI n) (by rw [hf _ (by omega) (by omega) (by omega) (by omega)]; exact hT.n v) ?_
    refine fv_icmp_ge (q := 17) 28 dX4_settle_14 (by decide) rfl (fun c14 => ?_) (fun c14 => ?_)
    · rw [nI_leI (by omega) (by omega)] at c14
      have hin : i = n := by omega
      subst hin
      refine fv_vret dX4_settle_28 rfl rfl (Nat.le_refl _) ?_
      exact hPost _ _ _ ⟨rfl, rfl, NumI_ord hs hN, hf⟩
    · rw [nI_leI (by omega) (by omega)] at c14
      have hTE : TabOf E (b + 2) T := hT.of (hf _ (by omega) (by omega) (by omega) (by omega)) (hf _ (by omega) (by omega) (by omega) (by omega)) (hf _ (by omega) (by omega) (by omega) (by omega)) (hf _ (by omega) (by omega) (by omega) (by omega))
      refine fv_aload_n (q := 18) dX4_settle_17 rfl rfl ?_
      refine fv_iload_n (q := 19) dX4_settle_18 rfl rfl ?_
      refine fl_callV (As := [_]) (q := 22) dX4_settle_19 gX4_38 rfl hb.ord rfl rfl (Nat.le_of_ble_eq_true rfl) rfl (by decide) (c_number b hb E J T n hTE v hs i (by omega) hN) (fun res D1 J1 hp => ?_)
      obtain ⟨rfl, rfl, hN2, hf2⟩ := hp
      have hs2 : ∀ j, j < n → D1 (b + 6) j = nI (lin T n j) := fun j hj => by rw [hf2 _ (by omega) (by omega) (by omega)]; exact hs j hj
      refine fv_iinc (v := _ + 1) (q := 25) (l' := [_, _]) dX4_settle_22 rfl rfl (by decide) rfl rfl rfl ?_
      refine fv_goto 6 dX4_settle_25 (by decide) ?_
      rw [nI_1]
      exact ih (by omega) D1 hs2 hN2 (fun a h6 h7 h8 h9 => by rw [hf2 a h7 h8 h9]; exact hf a h6 h7 h8 h9)
  refine fv_aload_n (q := 1) dX4_settle_0 rfl rfl ?_
  refine fl_callV (As := []) (q := 4) dX4_settle_1 gX4_31 rfl hb.ord rfl rfl (Nat.le_of_ble_eq_true rfl) rfl (by decide) (c_sort b hb D J T n hT v) (fun res D1 J1 hp => ?_)
  obtain ⟨rfl, rfl, hs, hf⟩ := hp
  refine fv_iconst (v := 0) (q := 5) dX4_settle_4 (by decide) rfl ?_
  refine fv_istore_n (i := 1) (q := 6) (l' := [_, _]) dX4_settle_5 rfl (by decide) rfl rfl rfl ?_
  exact loop 0 (Nat.zero_le _) D1 hs (fun k hk => absurd hk (Nat.not_lt_zero _)) (fun a h6 _ _ _ => hf a h6)
