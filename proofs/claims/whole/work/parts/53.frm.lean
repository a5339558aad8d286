/-! the model: the rows in a frame, sorted, answers of a frame -/
def KF (D E : Nat → Nat → Int32) : Prop := (∀ x, x < 16 → E 124 x = D 124 x) ∧ ∀ c, c ≠ 124 → c ≠ 138 → c ≠ 139 → E c = D c
theorem KF.rf (D : Nat → Nat → Int32) : KF D D := ⟨fun _ _ => rfl, fun _ _ _ _ => rfl⟩
theorem KF.tr {D E F : Nat → Nat → Int32} (h : KF D E) (h2 : KF E F) : KF D F := ⟨fun x hx => (h2.1 x hx).trans (h.1 x hx), fun c a b d => (h2.2 c a b d).trans (h.2 c a b d)⟩
theorem KF.ux {D E : Nat → Nat → Int32} {x : Nat} {y : Int32} (h : KF D E) (hx : 16 ≤ x) : KF D (up E 124 x y) :=
  ⟨fun z h1 => by rw [up_s, pk_un (by omega)]; exact h.1 z h1, fun c hc a b => by rw [up_n _ _ _ hc]; exact h.2 c hc a b⟩
theorem KF.ua {D E : Nat → Nat → Int32} {i x : Nat} {y : Int32} (h : KF D E) (hi : i = 138 ∨ i = 139) : KF D (up E i x y) :=
  ⟨fun z h1 => by rw [up_n _ _ _ (by omega)]; exact h.1 z h1, fun c hc a b => by rw [up_n _ _ _ (by omega)]; exact h.2 c hc a b⟩
theorem K16.kf {D E : Nat → Nat → Int32} (h : K16 D E) : KF D E := ⟨fun x hx => h.1 x (by omega) (by omega), fun c hc _ _ => h.2 c hc⟩
theorem KF.mt {D E : Nat → Nat → Int32} {a : Nat} {T : Nat → Int32} (h : KF D E) (hM : MT D a T) (ha : 124 < a ∧ a < 131) : MT E a T := by
  unfold MT; rw [h.2 a (by omega) (by omega) (by omega)]; exact hM
theorem KF.la {D E : Nat → Nat → Int32} {n : Nat} {T : Nat → Int32} (h : KF D E) (hL : LaidM D T n) : LaidM E T n := hL.of (fun c h1 h2 => h.2 c (by omega) (by omega) (by omega))
def FrS (D : Nat → Nat → Int32) (L : List Nat) : Prop := D 124 18 = nI L.length ∧ holN (D 138) L
theorem frL_stop {T : Nat → Int32} {n r k : Nat} : ∀ m, k ≤ m → (∀ j, k ≤ j → j < m → inF T n r j = false) → frL T n r m = frL T n r k
  | 0, h, _ => by rw [show k = 0 by omega]
  | m + 1, h, h2 => by
    by_cases e : k = m + 1
    · rw [e]
    · rw [frL_s, h2 m (by omega) (by omega), frL_stop m (by omega) (fun j a b => h2 j a (by omega))]
      simp
theorem fi_ofI {x : Int32} (h : 0 ≤ x.toInt) : x = nI x.toInt.toNat := by
  rw [fa_eq, nI_toInt]
  · omega
  · have := (fb_rng x).2; omega
theorem inF_ft {T : Nat → Int32} {n r : Nat} {f t : Int32} (hr : r < n) (hF : FF T n r f) (hT : TT T n r t) {k : Nat} (hk : pf T n r ≤ k) (hk2 : k < pf T n r + pm T n r) : inF T n r k = (decide (f.toInt ≤ (k : Int) ∧ (k : Int) < t.toInt) && !outB T r (lin T n k)) := by
  have hl := part_le (T := T) (n := n) (r := r)
  unfold inF
  rw [decide_eq_true ((in_part hr (show k < n by omega)).mpr ⟨hk, hk2⟩), Bool.true_and]
  congr 1
  have h1 := hF.2.2 k hk hk2
  have h2 := hT.2 k hk hk2
  rw [← Bool.decide_and]
  exact ndec (by rw [h1, h2])
set_option maxHeartbeats 4000000 in
set_option maxRecDepth 100000 in
theorem m_frames (a : Nat) (ha : shL[a]? = some (.inl (0, 126))) (D : Nat → Nat → Int32) (J : Nat → Nat → Int64) (T : Nat → Int32) (hM : MT D a T) (n : Nat) (v : VT T n) (ha2 : 124 < a ∧ a < 131) (hL : LaidM D T n) (r : Nat) (hr : r < n) : FD yX7_frames cX7_frames 7 none 3 [.ref 124, .ref a, .int (nI r)] D J (fun res D' J' => res = none ∧ J' = J ∧ KF D D' ∧ FrS D' (frL T n r n)) := by
  refine FD.of (by decide) rfl (Nat.le_of_ble_eq_true rfl) (fun Post hPost => ?_)
  show FV _ _ _ _ _ _ _ _ _ _ _ _ [_, _, _, _, _, _, _] [] _
  have h40 := v.2.1
  have hl := part_le (T := T) (n := n) (r := r)
  have hp := pos_part (T := T) hr
  have loop : ∀ f t : Int32, FF T n r f → TT T n r t → ∀ k : Nat, k ≤ pf T n r + pm T n r → f.toInt ≤ (k : Int) → ∀ (l4 l5 l6 : Option Value) (E : Nat → Nat → Int32), KF D E → E 124 16 = f → E 124 17 = t → FrS E (frL T n r k) → FV cX7_frames 7 none yX7_frames.cls yX7_frames.name 3 0 0 Post 0 0 47 [some (.ref 124), some (.ref a), some (.int (nI r)), some (.int (nI k)), l4, l5, l6] [] (lay E J) := by
    intro f t hF hT2
    have hF1 := hF.1
    refine up_ind (fun k hk ih => ?_)
    intro hfk l4 l5 l6 E hK h16 h17 hS
    refine fv_iload_n (q := 48) dX7_frames_47 rfl rfl ?_
    refine fv_aload_n (q := 49) dX7_frames_48 rfl rfl ?_
    refine fl_getI (q := 52) dX7_frames_49 fX7_87 sh124 rfl rfl ?_
    refine fv_top (y := t) h17 ?_
    refine fv_icmp_ge (q := 55) 168 dX7_frames_52 (by decide) rfl (fun c52 => ?_) (fun c52 => ?_)
    · rw [fa_le, nI_toInt (by omega)] at c52
      refine fv_vret dX7_frames_168 rfl rfl (Nat.le_refl _) ?_
      have e9 : frL T n r n = frL T n r k := by
        rw [← frL_end hr]
        exact frL_stop _ hk (fun j g1 g2 => by rw [inF_ft hr hF hT2 (by omega) g2, decide_eq_false (by omega), Bool.false_and])
      exact hPost _ _ _ ⟨rfl, rfl, hK, by rw [e9]; exact hS⟩
    · rw [fa_le, nI_toInt (by omega)] at c52
      have hME := hK.mt hM ha2
      have hLE := hK.la hL
      have hkp : k < pf T n r + pm T n r := by have := hT2.1; omega
      have hll := lin_lt (T := T) (n := n) (k := k) (by omega)
      have hfl := frL_len T n r k
      have hpa : pa T r = pa T (lin T n k) := ((in_part hr (by omega)).mpr ⟨by omega, hkp⟩).symm
      refine fv_aload_n (q := 56) dX7_frames_55 rfl rfl ?_
      refine fl_getR (q := 59) dX7_frames_56 fX7_29 sh124 rfl rfl ?_
      refine fv_iload_n (q := 60) dX7_frames_59 rfl rfl ?_
      refine fl_iald (q := 61) k dX7_frames_60 sh131 (by decide) rfl (by omega) rfl ?_
      refine fv_top (y := nI (lin T n k)) (hLE.1 k (by omega)) ?_
      refine fv_istore (q := 63) (l' := [_, _, _, _, _, _, _]) dX7_frames_61 (by decide) rfl rfl rfl ?_
      refine fv_aload_n (q := 64) dX7_frames_63 rfl rfl ?_
      refine fv_bipush (v := 46) (q := 66) dX7_frames_64 (by decide) rfl ?_
      refine fv_iload (q := 68) dX7_frames_66 rfl rfl ?_
      refine fv_iadd (q := 69) dX7_frames_68 rfl ?_
      refine fl_iald (q := 70) (46 + lin T n k) dX7_frames_69 ha (by decide) (nI_add 46 _) (by omega) rfl ?_
      refine fv_top (y := ke T (lin T n k)) (hME _ (by omega)) ?_
      refine fv_aload_n (q := 71) dX7_frames_70 rfl rfl ?_
      refine fv_bipush (v := 46) (q := 73) dX7_frames_71 (by decide) rfl ?_
      refine fv_iload_n (q := 74) dX7_frames_73 rfl rfl ?_
      refine fv_iadd (q := 75) dX7_frames_74 rfl ?_
      refine fl_iald (q := 76) (46 + r) dX7_frames_75 ha (by decide) (nI_add 46 r) (by omega) rfl ?_
      refine fv_top (y := ke T r) (hME _ (by omega)) ?_
      refine fv_icmp_ne (q := 79) 83 dX7_frames_76 (by decide) rfl (fun c76 => ?_) (fun c76 => ?_)
      · refine fv_iconst (v := 0) (q := 84) dX7_frames_83 (by decide) rfl ?_
        refine fv_istore (q := 86) (l' := [_, _, _, _, _, _, _]) dX7_frames_84 (by decide) rfl rfl rfl ?_
        refine fv_aload_n (q := 87) dX7_frames_86 rfl rfl ?_
        refine fv_iconst (v := 4) (q := 88) dX7_frames_87 (by decide) rfl ?_
        refine fl_iald (q := 89) 4 dX7_frames_88 ha (by decide) rfl (by decide) rfl ?_
        refine fv_top (y := T 4) (hME 4 (by decide)) ?_
        refine fv_iconst (v := 1) (q := 90) dX7_frames_89 (by decide) rfl ?_
        refine fv_icmp_ne (q := 93) 99 dX7_frames_90 (by decide) rfl (fun c90 => ?_) (fun c90 => ?_)
        · refine fv_aload_n (q := 100) dX7_frames_99 rfl rfl ?_
          refine fv_iconst (v := 4) (q := 101) dX7_frames_100 (by decide) rfl ?_
          refine fl_iald (q := 102) 4 dX7_frames_101 ha (by decide) rfl (by decide) rfl ?_
          refine fv_top (y := T 4) (hME 4 (by decide)) ?_
          refine fv_iconst (v := 2) (q := 103) dX7_frames_102 (by decide) rfl ?_
          refine fv_icmp_ne (q := 106) 111 dX7_frames_103 (by decide) rfl (fun c103 => ?_) (fun c103 => ?_)
          · refine fv_aload_n (q := 112) dX7_frames_111 rfl rfl ?_
            refine fv_iconst (v := 4) (q := 113) dX7_frames_112 (by decide) rfl ?_
            refine fl_iald (q := 114) 4 dX7_frames_113 ha (by decide) rfl (by decide) rfl ?_
            refine fv_top (y := T 4) (hME 4 (by decide)) ?_
            refine fv_iconst (v := 3) (q := 115) dX7_frames_114 (by decide) rfl ?_
            refine fv_icmp_ne (q := 118) 133 dX7_frames_115 (by decide) rfl (fun c115 => ?_) (fun c115 => ?_)
            · refine fv_iconst (v := 0) (q := 134) dX7_frames_133 (by decide) rfl ?_
              refine fv_istore (q := 136) (l' := [_, _, _, _, _, _, _]) dX7_frames_134 (by decide) rfl rfl rfl ?_
              refine fv_iload (q := 138) dX7_frames_136 rfl rfl ?_
              refine fv_if_ne (q := 141) 162 dX7_frames_138 (by decide) rfl (fun c138 => absurd rfl c138) (fun c138 => ?_)
              refine fv_aload_n (q := 142) dX7_frames_141 rfl rfl ?_
              refine fl_getR (q := 145) dX7_frames_142 fX7_50 sh124 rfl rfl ?_
              refine fv_aload_n (q := 146) dX7_frames_145 rfl rfl ?_
              refine fl_getI (q := 149) dX7_frames_146 fX7_100 sh124 rfl rfl ?_
              refine fv_top (y := nI (frL T n r k).length) hS.1 ?_
              refine fv_iload (q := 151) dX7_frames_149 rfl rfl ?_
              refine fl_iast (q := 152) (frL T n r k).length dX7_frames_151 sh138 (by decide) rfl (by omega) rfl ?_
              refine fv_aload_n (q := 153) dX7_frames_152 rfl rfl ?_
              refine fv_dup (q := 154) dX7_frames_153 rfl rfl ?_
              refine fl_getI (q := 157) dX7_frames_154 fX7_100 sh124 rfl rfl ?_
              refine fv_top (y := nI (frL T n r k).length) hS.1 ?_
              refine fv_iconst (v := 1) (q := 158) dX7_frames_157 (by decide) rfl ?_
              refine fv_iadd (q := 159) dX7_frames_158 rfl ?_
              refine fl_putI (q := 162) dX7_frames_159 fX7_100 sh124 rfl rfl rfl rfl ?_
              refine fv_iinc (v := _ + 1) (q := 165) (l' := [_, _, _, _, _, _, _]) dX7_frames_162 rfl rfl (by decide) rfl rfl rfl ?_
              refine fv_goto 47 dX7_frames_165 (by decide) ?_
              have ho : outB T r (lin T n k) = false := decide_eq_false (by rintro (x | x | x); exact c90 x.1; exact c103 x.1; exact c115 x.1)
              have hin : inF T n r k = true := by rw [inF_ft hr hF hT2 (by omega) (by omega), ho, decide_eq_true ⟨by omega, by omega⟩]; rfl
              have h9 := frL_s T n r k
              rw [hin] at h9
              simp only [if_true] at h9
              rw [nI_1]
              refine ih (by omega) (by omega) _ _ _ _ ((hK.ua (Or.inl rfl)).ux (x := 18) (by decide)) h16 h17 ⟨?_, ?_⟩
              · rw [up_s, pk_us, h9, List.length_append]; exact nI_1 _
              · rw [h9]
                show holN (upd (E 138) _ (nI (lin T n k))) _
                exact holN_push _ hS.2 rfl
            · refine fv_iload (q := 120) dX7_frames_118 rfl rfl ?_
              refine fv_if_eq (q := 123) 133 dX7_frames_120 (by decide) rfl (fun c120 => ?_) (fun c120 => absurd rfl c120)
              refine fv_iconst (v := 0) (q := 134) dX7_frames_133 (by decide) rfl ?_
              refine fv_istore (q := 136) (l' := [_, _, _, _, _, _, _]) dX7_frames_134 (by decide) rfl rfl rfl ?_
              refine fv_iload (q := 138) dX7_frames_136 rfl rfl ?_
              refine fv_if_ne (q := 141) 162 dX7_frames_138 (by decide) rfl (fun c138 => absurd rfl c138) (fun c138 => ?_)
              refine fv_aload_n (q := 142) dX7_frames_141 rfl rfl ?_
              refine fl_getR (q := 145) dX7_frames_142 fX7_50 sh124 rfl rfl ?_
              refine fv_aload_n (q := 146) dX7_frames_145 rfl rfl ?_
              refine fl_getI (q := 149) dX7_frames_146 fX7_100 sh124 rfl rfl ?_
              refine fv_top (y := nI (frL T n r k).length) hS.1 ?_
              refine fv_iload (q := 151) dX7_frames_149 rfl rfl ?_
              refine fl_iast (q := 152) (frL T n r k).length dX7_frames_151 sh138 (by decide) rfl (by omega) rfl ?_
              refine fv_aload_n (q := 153) dX7_frames_152 rfl rfl ?_
              refine fv_dup (q := 154) dX7_frames_153 rfl rfl ?_
              refine fl_getI (q := 157) dX7_frames_154 fX7_100 sh124 rfl rfl ?_
              refine fv_top (y := nI (frL T n r k).length) hS.1 ?_
              refine fv_iconst (v := 1) (q := 158) dX7_frames_157 (by decide) rfl ?_
              refine fv_iadd (q := 159) dX7_frames_158 rfl ?_
              refine fl_putI (q := 162) dX7_frames_159 fX7_100 sh124 rfl rfl rfl rfl ?_
              refine fv_iinc (v := _ + 1) (q := 165) (l' := [_, _, _, _, _, _, _]) dX7_frames_162 rfl rfl (by decide) rfl rfl rfl ?_
              refine fv_goto 47 dX7_frames_165 (by decide) ?_
              have ho : outB T r (lin T n k) = false := decide_eq_false (by rintro (x | x | x); exact c90 x.1; exact c103 x.1; exact c76 x.2.2.2.symm)
              have hin : inF T n r k = true := by rw [inF_ft hr hF hT2 (by omega) (by omega), ho, decide_eq_true ⟨by omega, by omega⟩]; rfl
              have h9 := frL_s T n r k
              rw [hin] at h9
              simp only [if_true] at h9
              rw [nI_1]
              refine ih (by omega) (by omega) _ _ _ _ ((hK.ua (Or.inl rfl)).ux (x := 18) (by decide)) h16 h17 ⟨?_, ?_⟩
              · rw [up_s, pk_us, h9, List.length_append]; exact nI_1 _
              · rw [h9]
                show holN (upd (E 138) _ (nI (lin T n k))) _
                exact holN_push _ hS.2 rfl
          · refine fv_iload (q := 108) dX7_frames_106 rfl rfl ?_
            refine fv_if_ne (q := 111) 129 dX7_frames_108 (by decide) rfl (fun c108 => absurd rfl c108) (fun c108 => ?_)
            refine fv_aload_n (q := 112) dX7_frames_111 rfl rfl ?_
            refine fv_iconst (v := 4) (q := 113) dX7_frames_112 (by decide) rfl ?_
            refine fl_iald (q := 114) 4 dX7_frames_113 ha (by decide) rfl (by decide) rfl ?_
            refine fv_top (y := T 4) (hME 4 (by decide)) ?_
            refine fv_iconst (v := 3) (q := 115) dX7_frames_114 (by decide) rfl ?_
            refine fv_icmp_ne (q := 118) 133 dX7_frames_115 (by decide) rfl (fun c115 => ?_) (fun c115 => ?_)
            · refine fv_iconst (v := 0) (q := 134) dX7_frames_133 (by decide) rfl ?_
              refine fv_istore (q := 136) (l' := [_, _, _, _, _, _, _]) dX7_frames_134 (by decide) rfl rfl rfl ?_
              refine fv_iload (q := 138) dX7_frames_136 rfl rfl ?_
              refine fv_if_ne (q := 141) 162 dX7_frames_138 (by decide) rfl (fun c138 => absurd rfl c138) (fun c138 => ?_)
              refine fv_aload_n (q := 142) dX7_frames_141 rfl rfl ?_
              refine fl_getR (q := 145) dX7_frames_142 fX7_50 sh124 rfl rfl ?_
              refine fv_aload_n (q := 146) dX7_frames_145 rfl rfl ?_
              refine fl_getI (q := 149) dX7_frames_146 fX7_100 sh124 rfl rfl ?_
              refine fv_top (y := nI (frL T n r k).length) hS.1 ?_
              refine fv_iload (q := 151) dX7_frames_149 rfl rfl ?_
              refine fl_iast (q := 152) (frL T n r k).length dX7_frames_151 sh138 (by decide) rfl (by omega) rfl ?_
              refine fv_aload_n (q := 153) dX7_frames_152 rfl rfl ?_
              refine fv_dup (q := 154) dX7_frames_153 rfl rfl ?_
              refine fl_getI (q := 157) dX7_frames_154 fX7_100 sh124 rfl rfl ?_
              refine fv_top (y := nI (frL T n r k).length) hS.1 ?_
              refine fv_iconst (v := 1) (q := 158) dX7_frames_157 (by decide) rfl ?_
              refine fv_iadd (q := 159) dX7_frames_158 rfl ?_
              refine fl_putI (q := 162) dX7_frames_159 fX7_100 sh124 rfl rfl rfl rfl ?_
              refine fv_iinc (v := _ + 1) (q := 165) (l' := [_, _, _, _, _, _, _]) dX7_frames_162 rfl rfl (by decide) rfl rfl rfl ?_
              refine fv_goto 47 dX7_frames_165 (by decide) ?_
              have ho : outB T r (lin T n k) = false := decide_eq_false (by rintro (x | x | x); exact c90 x.1; exact c76 x.2.2.symm; exact c115 x.1)
              have hin : inF T n r k = true := by rw [inF_ft hr hF hT2 (by omega) (by omega), ho, decide_eq_true ⟨by omega, by omega⟩]; rfl
              have h9 := frL_s T n r k
              rw [hin] at h9
              simp only [if_true] at h9
              rw [nI_1]
              refine ih (by omega) (by omega) _ _ _ _ ((hK.ua (Or.inl rfl)).ux (x := 18) (by decide)) h16 h17 ⟨?_, ?_⟩
              · rw [up_s, pk_us, h9, List.length_append]; exact nI_1 _
              · rw [h9]
                show holN (upd (E 138) _ (nI (lin T n k))) _
                exact holN_push _ hS.2 rfl
            · refine fv_iload (q := 120) dX7_frames_118 rfl rfl ?_
              refine fv_if_eq (q := 123) 133 dX7_frames_120 (by decide) rfl (fun c120 => ?_) (fun c120 => absurd rfl c120)
              refine fv_iconst (v := 0) (q := 134) dX7_frames_133 (by decide) rfl ?_
              refine fv_istore (q := 136) (l' := [_, _, _, _, _, _, _]) dX7_frames_134 (by decide) rfl rfl rfl ?_
              refine fv_iload (q := 138) dX7_frames_136 rfl rfl ?_
              refine fv_if_ne (q := 141) 162 dX7_frames_138 (by decide) rfl (fun c138 => absurd rfl c138) (fun c138 => ?_)
              refine fv_aload_n (q := 142) dX7_frames_141 rfl rfl ?_
              refine fl_getR (q := 145) dX7_frames_142 fX7_50 sh124 rfl rfl ?_
              refine fv_aload_n (q := 146) dX7_frames_145 rfl rfl ?_
              refine fl_getI (q := 149) dX7_frames_146 fX7_100 sh124 rfl rfl ?_
              refine fv_top (y := nI (frL T n r k).length) hS.1 ?_
              refine fv_iload (q := 151) dX7_frames_149 rfl rfl ?_
              refine fl_iast (q := 152) (frL T n r k).length dX7_frames_151 sh138 (by decide) rfl (by omega) rfl ?_
              refine fv_aload_n (q := 153) dX7_frames_152 rfl rfl ?_
              refine fv_dup (q := 154) dX7_frames_153 rfl rfl ?_
              refine fl_getI (q := 157) dX7_frames_154 fX7_100 sh124 rfl rfl ?_
              refine fv_top (y := nI (frL T n r k).length) hS.1 ?_
              refine fv_iconst (v := 1) (q := 158) dX7_frames_157 (by decide) rfl ?_
              refine fv_iadd (q := 159) dX7_frames_158 rfl ?_
              refine fl_putI (q := 162) dX7_frames_159 fX7_100 sh124 rfl rfl rfl rfl ?_
              refine fv_iinc (v := _ + 1) (q := 165) (l' := [_, _, _, _, _, _, _]) dX7_frames_162 rfl rfl (by decide) rfl rfl rfl ?_
              refine fv_goto 47 dX7_frames_165 (by decide) ?_
              have ho : outB T r (lin T n k) = false := decide_eq_false (by rintro (x | x | x); exact c90 x.1; exact c76 x.2.2.symm; exact c76 x.2.2.2.symm)
              have hin : inF T n r k = true := by rw [inF_ft hr hF hT2 (by omega) (by omega), ho, decide_eq_true ⟨by omega, by omega⟩]; rfl
              have h9 := frL_s T n r k
              rw [hin] at h9
              simp only [if_true] at h9
              rw [nI_1]
              refine ih (by omega) (by omega) _ _ _ _ ((hK.ua (Or.inl rfl)).ux (x := 18) (by decide)) h16 h17 ⟨?_, ?_⟩
              · rw [up_s, pk_us, h9, List.length_append]; exact nI_1 _
              · rw [h9]
                show holN (upd (E 138) _ (nI (lin T n k))) _
                exact holN_push _ hS.2 rfl
        · refine fv_iload (q := 95) dX7_frames_93 rfl rfl ?_
          refine fv_iload_n (q := 96) dX7_frames_95 rfl rfl ?_
          refine fv_icmp_eq (q := 99) 129 dX7_frames_96 (by decide) rfl (fun c96 => ?_) (fun c96 => ?_)
          · rw [nI_eq (by omega) (by omega)] at c96
            refine fv_iconst (v := 1) (q := 130) dX7_frames_129 (by decide) rfl ?_
            refine fv_goto 134 dX7_frames_130 (by decide) ?_
            refine fv_istore (q := 136) (l' := [_, _, _, _, _, _, _]) dX7_frames_134 (by decide) rfl rfl rfl ?_
            refine fv_iload (q := 138) dX7_frames_136 rfl rfl ?_
            refine fv_if_ne (q := 141) 162 dX7_frames_138 (by decide) rfl (fun c138 => ?_) (fun c138 => absurd c138 (by decide))
            refine fv_iinc (v := _ + 1) (q := 165) (l' := [_, _, _, _, _, _, _]) dX7_frames_162 rfl rfl (by decide) rfl rfl rfl ?_
            refine fv_goto 47 dX7_frames_165 (by decide) ?_
            have ho : outB T r (lin T n k) = true := decide_eq_true (Or.inl ⟨c90, c96⟩)
            have hin : inF T n r k = false := by rw [inF_ft hr hF hT2 (by omega) (by omega), ho, Bool.not_true, Bool.and_false]
            have h9 := frL_s T n r k
            rw [hin] at h9
            simp only [Bool.false_eq_true, if_false, List.append_nil] at h9
            rw [nI_1]
            exact ih (by omega) (by omega) _ _ _ E hK h16 h17 (by rw [h9]; exact hS)
          · rw [nI_eq (by omega) (by omega)] at c96
            refine fv_aload_n (q := 100) dX7_frames_99 rfl rfl ?_
            refine fv_iconst (v := 4) (q := 101) dX7_frames_100 (by decide) rfl ?_
            refine fl_iald (q := 102) 4 dX7_frames_101 ha (by decide) rfl (by decide) rfl ?_
            refine fv_top (y := T 4) (hME 4 (by decide)) ?_
            refine fv_iconst (v := 2) (q := 103) dX7_frames_102 (by decide) rfl ?_
            refine fv_icmp_ne (q := 106) 111 dX7_frames_103 (by decide) rfl (fun c103 => ?_) (fun c103 => ?_)
            · refine fv_aload_n (q := 112) dX7_frames_111 rfl rfl ?_
              refine fv_iconst (v := 4) (q := 113) dX7_frames_112 (by decide) rfl ?_
              refine fl_iald (q := 114) 4 dX7_frames_113 ha (by decide) rfl (by decide) rfl ?_
              refine fv_top (y := T 4) (hME 4 (by decide)) ?_
              refine fv_iconst (v := 3) (q := 115) dX7_frames_114 (by decide) rfl ?_
              refine fv_icmp_ne (q := 118) 133 dX7_frames_115 (by decide) rfl (fun c115 => ?_) (fun c115 => ?_)
              · refine fv_iconst (v := 0) (q := 134) dX7_frames_133 (by decide) rfl ?_
                refine fv_istore (q := 136) (l' := [_, _, _, _, _, _, _]) dX7_frames_134 (by decide) rfl rfl rfl ?_
                refine fv_iload (q := 138) dX7_frames_136 rfl rfl ?_
                refine fv_if_ne (q := 141) 162 dX7_frames_138 (by decide) rfl (fun c138 => absurd rfl c138) (fun c138 => ?_)
                refine fv_aload_n (q := 142) dX7_frames_141 rfl rfl ?_
                refine fl_getR (q := 145) dX7_frames_142 fX7_50 sh124 rfl rfl ?_
                refine fv_aload_n (q := 146) dX7_frames_145 rfl rfl ?_
                refine fl_getI (q := 149) dX7_frames_146 fX7_100 sh124 rfl rfl ?_
                refine fv_top (y := nI (frL T n r k).length) hS.1 ?_
                refine fv_iload (q := 151) dX7_frames_149 rfl rfl ?_
                refine fl_iast (q := 152) (frL T n r k).length dX7_frames_151 sh138 (by decide) rfl (by omega) rfl ?_
                refine fv_aload_n (q := 153) dX7_frames_152 rfl rfl ?_
                refine fv_dup (q := 154) dX7_frames_153 rfl rfl ?_
                refine fl_getI (q := 157) dX7_frames_154 fX7_100 sh124 rfl rfl ?_
                refine fv_top (y := nI (frL T n r k).length) hS.1 ?_
                refine fv_iconst (v := 1) (q := 158) dX7_frames_157 (by decide) rfl ?_
                refine fv_iadd (q := 159) dX7_frames_158 rfl ?_
                refine fl_putI (q := 162) dX7_frames_159 fX7_100 sh124 rfl rfl rfl rfl ?_
                refine fv_iinc (v := _ + 1) (q := 165) (l' := [_, _, _, _, _, _, _]) dX7_frames_162 rfl rfl (by decide) rfl rfl rfl ?_
                refine fv_goto 47 dX7_frames_165 (by decide) ?_
                have ho : outB T r (lin T n k) = false := decide_eq_false (by rintro (x | x | x); exact c96 x.2; exact c103 x.1; exact c115 x.1)
                have hin : inF T n r k = true := by rw [inF_ft hr hF hT2 (by omega) (by omega), ho, decide_eq_true ⟨by omega, by omega⟩]; rfl
                have h9 := frL_s T n r k
                rw [hin] at h9
                simp only [if_true] at h9
                rw [nI_1]
                refine ih (by omega) (by omega) _ _ _ _ ((hK.ua (Or.inl rfl)).ux (x := 18) (by decide)) h16 h17 ⟨?_, ?_⟩
                · rw [up_s, pk_us, h9, List.length_append]; exact nI_1 _
                · rw [h9]
                  show holN (upd (E 138) _ (nI (lin T n k))) _
                  exact holN_push _ hS.2 rfl
              · refine fv_iload (q := 120) dX7_frames_118 rfl rfl ?_
                refine fv_if_eq (q := 123) 133 dX7_frames_120 (by decide) rfl (fun c120 => ?_) (fun c120 => absurd rfl c120)
                refine fv_iconst (v := 0) (q := 134) dX7_frames_133 (by decide) rfl ?_
                refine fv_istore (q := 136) (l' := [_, _, _, _, _, _, _]) dX7_frames_134 (by decide) rfl rfl rfl ?_
                refine fv_iload (q := 138) dX7_frames_136 rfl rfl ?_
                refine fv_if_ne (q := 141) 162 dX7_frames_138 (by decide) rfl (fun c138 => absurd rfl c138) (fun c138 => ?_)
                refine fv_aload_n (q := 142) dX7_frames_141 rfl rfl ?_
                refine fl_getR (q := 145) dX7_frames_142 fX7_50 sh124 rfl rfl ?_
                refine fv_aload_n (q := 146) dX7_frames_145 rfl rfl ?_
                refine fl_getI (q := 149) dX7_frames_146 fX7_100 sh124 rfl rfl ?_
                refine fv_top (y := nI (frL T n r k).length) hS.1 ?_
                refine fv_iload (q := 151) dX7_frames_149 rfl rfl ?_
                refine fl_iast (q := 152) (frL T n r k).length dX7_frames_151 sh138 (by decide) rfl (by omega) rfl ?_
                refine fv_aload_n (q := 153) dX7_frames_152 rfl rfl ?_
                refine fv_dup (q := 154) dX7_frames_153 rfl rfl ?_
                refine fl_getI (q := 157) dX7_frames_154 fX7_100 sh124 rfl rfl ?_
                refine fv_top (y := nI (frL T n r k).length) hS.1 ?_
                refine fv_iconst (v := 1) (q := 158) dX7_frames_157 (by decide) rfl ?_
                refine fv_iadd (q := 159) dX7_frames_158 rfl ?_
                refine fl_putI (q := 162) dX7_frames_159 fX7_100 sh124 rfl rfl rfl rfl ?_
                refine fv_iinc (v := _ + 1) (q := 165) (l' := [_, _, _, _, _, _, _]) dX7_frames_162 rfl rfl (by decide) rfl rfl rfl ?_
                refine fv_goto 47 dX7_frames_165 (by decide) ?_
                have ho : outB T r (lin T n k) = false := decide_eq_false (by rintro (x | x | x); exact c96 x.2; exact c103 x.1; exact c76 x.2.2.2.symm)
                have hin : inF T n r k = true := by rw [inF_ft hr hF hT2 (by omega) (by omega), ho, decide_eq_true ⟨by omega, by omega⟩]; rfl
                have h9 := frL_s T n r k
                rw [hin] at h9
                simp only [if_true] at h9
                rw [nI_1]
                refine ih (by omega) (by omega) _ _ _ _ ((hK.ua (Or.inl rfl)).ux (x := 18) (by decide)) h16 h17 ⟨?_, ?_⟩
                · rw [up_s, pk_us, h9, List.length_append]; exact nI_1 _
                · rw [h9]
                  show holN (upd (E 138) _ (nI (lin T n k))) _
                  exact holN_push _ hS.2 rfl
            · refine fv_iload (q := 108) dX7_frames_106 rfl rfl ?_
              refine fv_if_ne (q := 111) 129 dX7_frames_108 (by decide) rfl (fun c108 => absurd rfl c108) (fun c108 => ?_)
              refine fv_aload_n (q := 112) dX7_frames_111 rfl rfl ?_
              refine fv_iconst (v := 4) (q := 113) dX7_frames_112 (by decide) rfl ?_
              refine fl_iald (q := 114) 4 dX7_frames_113 ha (by decide) rfl (by decide) rfl ?_
              refine fv_top (y := T 4) (hME 4 (by decide)) ?_
              refine fv_iconst (v := 3) (q := 115) dX7_frames_114 (by decide) rfl ?_
              refine fv_icmp_ne (q := 118) 133 dX7_frames_115 (by decide) rfl (fun c115 => ?_) (fun c115 => ?_)
              · refine fv_iconst (v := 0) (q := 134) dX7_frames_133 (by decide) rfl ?_
                refine fv_istore (q := 136) (l' := [_, _, _, _, _, _, _]) dX7_frames_134 (by decide) rfl rfl rfl ?_
                refine fv_iload (q := 138) dX7_frames_136 rfl rfl ?_
                refine fv_if_ne (q := 141) 162 dX7_frames_138 (by decide) rfl (fun c138 => absurd rfl c138) (fun c138 => ?_)
                refine fv_aload_n (q := 142) dX7_frames_141 rfl rfl ?_
                refine fl_getR (q := 145) dX7_frames_142 fX7_50 sh124 rfl rfl ?_
                refine fv_aload_n (q := 146) dX7_frames_145 rfl rfl ?_
                refine fl_getI (q := 149) dX7_frames_146 fX7_100 sh124 rfl rfl ?_
                refine fv_top (y := nI (frL T n r k).length) hS.1 ?_
                refine fv_iload (q := 151) dX7_frames_149 rfl rfl ?_
                refine fl_iast (q := 152) (frL T n r k).length dX7_frames_151 sh138 (by decide) rfl (by omega) rfl ?_
                refine fv_aload_n (q := 153) dX7_frames_152 rfl rfl ?_
                refine fv_dup (q := 154) dX7_frames_153 rfl rfl ?_
                refine fl_getI (q := 157) dX7_frames_154 fX7_100 sh124 rfl rfl ?_
                refine fv_top (y := nI (frL T n r k).length) hS.1 ?_
                refine fv_iconst (v := 1) (q := 158) dX7_frames_157 (by decide) rfl ?_
                refine fv_iadd (q := 159) dX7_frames_158 rfl ?_
                refine fl_putI (q := 162) dX7_frames_159 fX7_100 sh124 rfl rfl rfl rfl ?_
                refine fv_iinc (v := _ + 1) (q := 165) (l' := [_, _, _, _, _, _, _]) dX7_frames_162 rfl rfl (by decide) rfl rfl rfl ?_
                refine fv_goto 47 dX7_frames_165 (by decide) ?_
                have ho : outB T r (lin T n k) = false := decide_eq_false (by rintro (x | x | x); exact c96 x.2; exact c76 x.2.2.symm; exact c115 x.1)
                have hin : inF T n r k = true := by rw [inF_ft hr hF hT2 (by omega) (by omega), ho, decide_eq_true ⟨by omega, by omega⟩]; rfl
                have h9 := frL_s T n r k
                rw [hin] at h9
                simp only [if_true] at h9
                rw [nI_1]
                refine ih (by omega) (by omega) _ _ _ _ ((hK.ua (Or.inl rfl)).ux (x := 18) (by decide)) h16 h17 ⟨?_, ?_⟩
                · rw [up_s, pk_us, h9, List.length_append]; exact nI_1 _
                · rw [h9]
                  show holN (upd (E 138) _ (nI (lin T n k))) _
                  exact holN_push _ hS.2 rfl
              · refine fv_iload (q := 120) dX7_frames_118 rfl rfl ?_
                refine fv_if_eq (q := 123) 133 dX7_frames_120 (by decide) rfl (fun c120 => ?_) (fun c120 => absurd rfl c120)
                refine fv_iconst (v := 0) (q := 134) dX7_frames_133 (by decide) rfl ?_
                refine fv_istore (q := 136) (l' := [_, _, _, _, _, _, _]) dX7_frames_134 (by decide) rfl rfl rfl ?_
                refine fv_iload (q := 138) dX7_frames_136 rfl rfl ?_
                refine fv_if_ne (q := 141) 162 dX7_frames_138 (by decide) rfl (fun c138 => absurd rfl c138) (fun c138 => ?_)
                refine fv_aload_n (q := 142) dX7_frames_141 rfl rfl ?_
                refine fl_getR (q := 145) dX7_frames_142 fX7_50 sh124 rfl rfl ?_
                refine fv_aload_n (q := 146) dX7_frames_145 rfl rfl ?_
                refine fl_getI (q := 149) dX7_frames_146 fX7_100 sh124 rfl rfl ?_
                refine fv_top (y := nI (frL T n r k).length) hS.1 ?_
                refine fv_iload (q := 151) dX7_frames_149 rfl rfl ?_
                refine fl_iast (q := 152) (frL T n r k).length dX7_frames_151 sh138 (by decide) rfl (by omega) rfl ?_
                refine fv_aload_n (q := 153) dX7_frames_152 rfl rfl ?_
                refine fv_dup (q := 154) dX7_frames_153 rfl rfl ?_
                refine fl_getI (q := 157) dX7_frames_154 fX7_100 sh124 rfl rfl ?_
                refine fv_top (y := nI (frL T n r k).length) hS.1 ?_
                refine fv_iconst (v := 1) (q := 158) dX7_frames_157 (by decide) rfl ?_
                refine fv_iadd (q := 159) dX7_frames_158 rfl ?_
                refine fl_putI (q := 162) dX7_frames_159 fX7_100 sh124 rfl rfl rfl rfl ?_
                refine fv_iinc (v := _ + 1) (q := 165) (l' := [_, _, _, _, _, _, _]) dX7_frames_162 rfl rfl (by decide) rfl rfl rfl ?_
                refine fv_goto 47 dX7_frames_165 (by decide) ?_
                have ho : outB T r (lin T n k) = false := decide_eq_false (by rintro (x | x | x); exact c96 x.2; exact c76 x.2.2.symm; exact c76 x.2.2.2.symm)
                have hin : inF T n r k = true := by rw [inF_ft hr hF hT2 (by omega) (by omega), ho, decide_eq_true ⟨by omega, by omega⟩]; rfl
                have h9 := frL_s T n r k
                rw [hin] at h9
                simp only [if_true] at h9
                rw [nI_1]
                refine ih (by omega) (by omega) _ _ _ _ ((hK.ua (Or.inl rfl)).ux (x := 18) (by decide)) h16 h17 ⟨?_, ?_⟩
                · rw [up_s, pk_us, h9, List.length_append]; exact nI_1 _
                · rw [h9]
                  show holN (upd (E 138) _ (nI (lin T n k))) _
                  exact holN_push _ hS.2 rfl
      · refine fv_iconst (v := 1) (q := 80) dX7_frames_79 (by decide) rfl ?_
        refine fv_goto 84 dX7_frames_80 (by decide) ?_
        refine fv_istore (q := 86) (l' := [_, _, _, _, _, _, _]) dX7_frames_84 (by decide) rfl rfl rfl ?_
        refine fv_aload_n (q := 87) dX7_frames_86 rfl rfl ?_
        refine fv_iconst (v := 4) (q := 88) dX7_frames_87 (by decide) rfl ?_
        refine fl_iald (q := 89) 4 dX7_frames_88 ha (by decide) rfl (by decide) rfl ?_
        refine fv_top (y := T 4) (hME 4 (by decide)) ?_
        refine fv_iconst (v := 1) (q := 90) dX7_frames_89 (by decide) rfl ?_
        refine fv_icmp_ne (q := 93) 99 dX7_frames_90 (by decide) rfl (fun c90 => ?_) (fun c90 => ?_)
        · refine fv_aload_n (q := 100) dX7_frames_99 rfl rfl ?_
          refine fv_iconst (v := 4) (q := 101) dX7_frames_100 (by decide) rfl ?_
          refine fl_iald (q := 102) 4 dX7_frames_101 ha (by decide) rfl (by decide) rfl ?_
          refine fv_top (y := T 4) (hME 4 (by decide)) ?_
          refine fv_iconst (v := 2) (q := 103) dX7_frames_102 (by decide) rfl ?_
          refine fv_icmp_ne (q := 106) 111 dX7_frames_103 (by decide) rfl (fun c103 => ?_) (fun c103 => ?_)
          · refine fv_aload_n (q := 112) dX7_frames_111 rfl rfl ?_
            refine fv_iconst (v := 4) (q := 113) dX7_frames_112 (by decide) rfl ?_
            refine fl_iald (q := 114) 4 dX7_frames_113 ha (by decide) rfl (by decide) rfl ?_
            refine fv_top (y := T 4) (hME 4 (by decide)) ?_
            refine fv_iconst (v := 3) (q := 115) dX7_frames_114 (by decide) rfl ?_
            refine fv_icmp_ne (q := 118) 133 dX7_frames_115 (by decide) rfl (fun c115 => ?_) (fun c115 => ?_)
            · refine fv_iconst (v := 0) (q := 134) dX7_frames_133 (by decide) rfl ?_
              refine fv_istore (q := 136) (l' := [_, _, _, _, _, _, _]) dX7_frames_134 (by decide) rfl rfl rfl ?_
              refine fv_iload (q := 138) dX7_frames_136 rfl rfl ?_
              refine fv_if_ne (q := 141) 162 dX7_frames_138 (by decide) rfl (fun c138 => absurd rfl c138) (fun c138 => ?_)
              refine fv_aload_n (q := 142) dX7_frames_141 rfl rfl ?_
              refine fl_getR (q := 145) dX7_frames_142 fX7_50 sh124 rfl rfl ?_
              refine fv_aload_n (q := 146) dX7_frames_145 rfl rfl ?_
              refine fl_getI (q := 149) dX7_frames_146 fX7_100 sh124 rfl rfl ?_
              refine fv_top (y := nI (frL T n r k).length) hS.1 ?_
              refine fv_iload (q := 151) dX7_frames_149 rfl rfl ?_
              refine fl_iast (q := 152) (frL T n r k).length dX7_frames_151 sh138 (by decide) rfl (by omega) rfl ?_
              refine fv_aload_n (q := 153) dX7_frames_152 rfl rfl ?_
              refine fv_dup (q := 154) dX7_frames_153 rfl rfl ?_
              refine fl_getI (q := 157) dX7_frames_154 fX7_100 sh124 rfl rfl ?_
              refine fv_top (y := nI (frL T n r k).length) hS.1 ?_
              refine fv_iconst (v := 1) (q := 158) dX7_frames_157 (by decide) rfl ?_
              refine fv_iadd (q := 159) dX7_frames_158 rfl ?_
              refine fl_putI (q := 162) dX7_frames_159 fX7_100 sh124 rfl rfl rfl rfl ?_
              refine fv_iinc (v := _ + 1) (q := 165) (l' := [_, _, _, _, _, _, _]) dX7_frames_162 rfl rfl (by decide) rfl rfl rfl ?_
              refine fv_goto 47 dX7_frames_165 (by decide) ?_
              have ho : outB T r (lin T n k) = false := decide_eq_false (by rintro (x | x | x); exact c90 x.1; exact c103 x.1; exact c115 x.1)
              have hin : inF T n r k = true := by rw [inF_ft hr hF hT2 (by omega) (by omega), ho, decide_eq_true ⟨by omega, by omega⟩]; rfl
              have h9 := frL_s T n r k
              rw [hin] at h9
              simp only [if_true] at h9
              rw [nI_1]
              refine ih (by omega) (by omega) _ _ _ _ ((hK.ua (Or.inl rfl)).ux (x := 18) (by decide)) h16 h17 ⟨?_, ?_⟩
              · rw [up_s, pk_us, h9, List.length_append]; exact nI_1 _
              · rw [h9]
                show holN (upd (E 138) _ (nI (lin T n k))) _
                exact holN_push _ hS.2 rfl
            · refine fv_iload (q := 120) dX7_frames_118 rfl rfl ?_
              refine fv_if_eq (q := 123) 133 dX7_frames_120 (by decide) rfl (fun c120 => absurd c120 (by decide)) (fun c120 => ?_)
              refine fv_iload (q := 125) dX7_frames_123 rfl rfl ?_
              refine fv_iload_n (q := 126) dX7_frames_125 rfl rfl ?_
              refine fv_icmp_eq (q := 129) 133 dX7_frames_126 (by decide) rfl (fun c126 => ?_) (fun c126 => ?_)
              · rw [nI_eq (by omega) (by omega)] at c126
                refine fv_iconst (v := 0) (q := 134) dX7_frames_133 (by decide) rfl ?_
                refine fv_istore (q := 136) (l' := [_, _, _, _, _, _, _]) dX7_frames_134 (by decide) rfl rfl rfl ?_
                refine fv_iload (q := 138) dX7_frames_136 rfl rfl ?_
                refine fv_if_ne (q := 141) 162 dX7_frames_138 (by decide) rfl (fun c138 => absurd rfl c138) (fun c138 => ?_)
                refine fv_aload_n (q := 142) dX7_frames_141 rfl rfl ?_
                refine fl_getR (q := 145) dX7_frames_142 fX7_50 sh124 rfl rfl ?_
                refine fv_aload_n (q := 146) dX7_frames_145 rfl rfl ?_
                refine fl_getI (q := 149) dX7_frames_146 fX7_100 sh124 rfl rfl ?_
                refine fv_top (y := nI (frL T n r k).length) hS.1 ?_
                refine fv_iload (q := 151) dX7_frames_149 rfl rfl ?_
                refine fl_iast (q := 152) (frL T n r k).length dX7_frames_151 sh138 (by decide) rfl (by omega) rfl ?_
                refine fv_aload_n (q := 153) dX7_frames_152 rfl rfl ?_
                refine fv_dup (q := 154) dX7_frames_153 rfl rfl ?_
                refine fl_getI (q := 157) dX7_frames_154 fX7_100 sh124 rfl rfl ?_
                refine fv_top (y := nI (frL T n r k).length) hS.1 ?_
                refine fv_iconst (v := 1) (q := 158) dX7_frames_157 (by decide) rfl ?_
                refine fv_iadd (q := 159) dX7_frames_158 rfl ?_
                refine fl_putI (q := 162) dX7_frames_159 fX7_100 sh124 rfl rfl rfl rfl ?_
                refine fv_iinc (v := _ + 1) (q := 165) (l' := [_, _, _, _, _, _, _]) dX7_frames_162 rfl rfl (by decide) rfl rfl rfl ?_
                refine fv_goto 47 dX7_frames_165 (by decide) ?_
                have ho : outB T r (lin T n k) = false := decide_eq_false (by rintro (x | x | x); exact c90 x.1; exact c103 x.1; exact x.2.1 c126)
                have hin : inF T n r k = true := by rw [inF_ft hr hF hT2 (by omega) (by omega), ho, decide_eq_true ⟨by omega, by omega⟩]; rfl
                have h9 := frL_s T n r k
                rw [hin] at h9
                simp only [if_true] at h9
                rw [nI_1]
                refine ih (by omega) (by omega) _ _ _ _ ((hK.ua (Or.inl rfl)).ux (x := 18) (by decide)) h16 h17 ⟨?_, ?_⟩
                · rw [up_s, pk_us, h9, List.length_append]; exact nI_1 _
                · rw [h9]
                  show holN (upd (E 138) _ (nI (lin T n k))) _
                  exact holN_push _ hS.2 rfl
              · rw [nI_eq (by omega) (by omega)] at c126
                refine fv_iconst (v := 1) (q := 130) dX7_frames_129 (by decide) rfl ?_
                refine fv_goto 134 dX7_frames_130 (by decide) ?_
                refine fv_istore (q := 136) (l' := [_, _, _, _, _, _, _]) dX7_frames_134 (by decide) rfl rfl rfl ?_
                refine fv_iload (q := 138) dX7_frames_136 rfl rfl ?_
                refine fv_if_ne (q := 141) 162 dX7_frames_138 (by decide) rfl (fun c138 => ?_) (fun c138 => absurd c138 (by decide))
                refine fv_iinc (v := _ + 1) (q := 165) (l' := [_, _, _, _, _, _, _]) dX7_frames_162 rfl rfl (by decide) rfl rfl rfl ?_
                refine fv_goto 47 dX7_frames_165 (by decide) ?_
                have ho : outB T r (lin T n k) = true := decide_eq_true (Or.inr (Or.inr ⟨c115, c126, hpa, c76.symm⟩))
                have hin : inF T n r k = false := by rw [inF_ft hr hF hT2 (by omega) (by omega), ho, Bool.not_true, Bool.and_false]
                have h9 := frL_s T n r k
                rw [hin] at h9
                simp only [Bool.false_eq_true, if_false, List.append_nil] at h9
                rw [nI_1]
                exact ih (by omega) (by omega) _ _ _ E hK h16 h17 (by rw [h9]; exact hS)
          · refine fv_iload (q := 108) dX7_frames_106 rfl rfl ?_
            refine fv_if_ne (q := 111) 129 dX7_frames_108 (by decide) rfl (fun c108 => ?_) (fun c108 => absurd c108 (by decide))
            refine fv_iconst (v := 1) (q := 130) dX7_frames_129 (by decide) rfl ?_
            refine fv_goto 134 dX7_frames_130 (by decide) ?_
            refine fv_istore (q := 136) (l' := [_, _, _, _, _, _, _]) dX7_frames_134 (by decide) rfl rfl rfl ?_
            refine fv_iload (q := 138) dX7_frames_136 rfl rfl ?_
            refine fv_if_ne (q := 141) 162 dX7_frames_138 (by decide) rfl (fun c138 => ?_) (fun c138 => absurd c138 (by decide))
            refine fv_iinc (v := _ + 1) (q := 165) (l' := [_, _, _, _, _, _, _]) dX7_frames_162 rfl rfl (by decide) rfl rfl rfl ?_
            refine fv_goto 47 dX7_frames_165 (by decide) ?_
            have ho : outB T r (lin T n k) = true := decide_eq_true (Or.inr (Or.inl ⟨c103, hpa, c76.symm⟩))
            have hin : inF T n r k = false := by rw [inF_ft hr hF hT2 (by omega) (by omega), ho, Bool.not_true, Bool.and_false]
            have h9 := frL_s T n r k
            rw [hin] at h9
            simp only [Bool.false_eq_true, if_false, List.append_nil] at h9
            rw [nI_1]
            exact ih (by omega) (by omega) _ _ _ E hK h16 h17 (by rw [h9]; exact hS)
        · refine fv_iload (q := 95) dX7_frames_93 rfl rfl ?_
          refine fv_iload_n (q := 96) dX7_frames_95 rfl rfl ?_
          refine fv_icmp_eq (q := 99) 129 dX7_frames_96 (by decide) rfl (fun c96 => ?_) (fun c96 => ?_)
          · rw [nI_eq (by omega) (by omega)] at c96
            refine fv_iconst (v := 1) (q := 130) dX7_frames_129 (by decide) rfl ?_
            refine fv_goto 134 dX7_frames_130 (by decide) ?_
            refine fv_istore (q := 136) (l' := [_, _, _, _, _, _, _]) dX7_frames_134 (by decide) rfl rfl rfl ?_
            refine fv_iload (q := 138) dX7_frames_136 rfl rfl ?_
            refine fv_if_ne (q := 141) 162 dX7_frames_138 (by decide) rfl (fun c138 => ?_) (fun c138 => absurd c138 (by decide))
            refine fv_iinc (v := _ + 1) (q := 165) (l' := [_, _, _, _, _, _, _]) dX7_frames_162 rfl rfl (by decide) rfl rfl rfl ?_
            refine fv_goto 47 dX7_frames_165 (by decide) ?_
            have ho : outB T r (lin T n k) = true := decide_eq_true (Or.inl ⟨c90, c96⟩)
            have hin : inF T n r k = false := by rw [inF_ft hr hF hT2 (by omega) (by omega), ho, Bool.not_true, Bool.and_false]
            have h9 := frL_s T n r k
            rw [hin] at h9
            simp only [Bool.false_eq_true, if_false, List.append_nil] at h9
            rw [nI_1]
            exact ih (by omega) (by omega) _ _ _ E hK h16 h17 (by rw [h9]; exact hS)
          · rw [nI_eq (by omega) (by omega)] at c96
            refine fv_aload_n (q := 100) dX7_frames_99 rfl rfl ?_
            refine fv_iconst (v := 4) (q := 101) dX7_frames_100 (by decide) rfl ?_
            refine fl_iald (q := 102) 4 dX7_frames_101 ha (by decide) rfl (by decide) rfl ?_
            refine fv_top (y := T 4) (hME 4 (by decide)) ?_
            refine fv_iconst (v := 2) (q := 103) dX7_frames_102 (by decide) rfl ?_
            refine fv_icmp_ne (q := 106) 111 dX7_frames_103 (by decide) rfl (fun c103 => ?_) (fun c103 => ?_)
            · refine fv_aload_n (q := 112) dX7_frames_111 rfl rfl ?_
              refine fv_iconst (v := 4) (q := 113) dX7_frames_112 (by decide) rfl ?_
              refine fl_iald (q := 114) 4 dX7_frames_113 ha (by decide) rfl (by decide) rfl ?_
              refine fv_top (y := T 4) (hME 4 (by decide)) ?_
              refine fv_iconst (v := 3) (q := 115) dX7_frames_114 (by decide) rfl ?_
              refine fv_icmp_ne (q := 118) 133 dX7_frames_115 (by decide) rfl (fun c115 => ?_) (fun c115 => ?_)
              · refine fv_iconst (v := 0) (q := 134) dX7_frames_133 (by decide) rfl ?_
                refine fv_istore (q := 136) (l' := [_, _, _, _, _, _, _]) dX7_frames_134 (by decide) rfl rfl rfl ?_
                refine fv_iload (q := 138) dX7_frames_136 rfl rfl ?_
                refine fv_if_ne (q := 141) 162 dX7_frames_138 (by decide) rfl (fun c138 => absurd rfl c138) (fun c138 => ?_)
                refine fv_aload_n (q := 142) dX7_frames_141 rfl rfl ?_
                refine fl_getR (q := 145) dX7_frames_142 fX7_50 sh124 rfl rfl ?_
                refine fv_aload_n (q := 146) dX7_frames_145 rfl rfl ?_
                refine fl_getI (q := 149) dX7_frames_146 fX7_100 sh124 rfl rfl ?_
                refine fv_top (y := nI (frL T n r k).length) hS.1 ?_
                refine fv_iload (q := 151) dX7_frames_149 rfl rfl ?_
                refine fl_iast (q := 152) (frL T n r k).length dX7_frames_151 sh138 (by decide) rfl (by omega) rfl ?_
                refine fv_aload_n (q := 153) dX7_frames_152 rfl rfl ?_
                refine fv_dup (q := 154) dX7_frames_153 rfl rfl ?_
                refine fl_getI (q := 157) dX7_frames_154 fX7_100 sh124 rfl rfl ?_
                refine fv_top (y := nI (frL T n r k).length) hS.1 ?_
                refine fv_iconst (v := 1) (q := 158) dX7_frames_157 (by decide) rfl ?_
                refine fv_iadd (q := 159) dX7_frames_158 rfl ?_
                refine fl_putI (q := 162) dX7_frames_159 fX7_100 sh124 rfl rfl rfl rfl ?_
                refine fv_iinc (v := _ + 1) (q := 165) (l' := [_, _, _, _, _, _, _]) dX7_frames_162 rfl rfl (by decide) rfl rfl rfl ?_
                refine fv_goto 47 dX7_frames_165 (by decide) ?_
                have ho : outB T r (lin T n k) = false := decide_eq_false (by rintro (x | x | x); exact c96 x.2; exact c103 x.1; exact c115 x.1)
                have hin : inF T n r k = true := by rw [inF_ft hr hF hT2 (by omega) (by omega), ho, decide_eq_true ⟨by omega, by omega⟩]; rfl
                have h9 := frL_s T n r k
                rw [hin] at h9
                simp only [if_true] at h9
                rw [nI_1]
                refine ih (by omega) (by omega) _ _ _ _ ((hK.ua (Or.inl rfl)).ux (x := 18) (by decide)) h16 h17 ⟨?_, ?_⟩
                · rw [up_s, pk_us, h9, List.length_append]; exact nI_1 _
                · rw [h9]
                  show holN (upd (E 138) _ (nI (lin T n k))) _
                  exact holN_push _ hS.2 rfl
              · refine fv_iload (q := 120) dX7_frames_118 rfl rfl ?_
                refine fv_if_eq (q := 123) 133 dX7_frames_120 (by decide) rfl (fun c120 => absurd c120 (by decide)) (fun c120 => ?_)
                refine fv_iload (q := 125) dX7_frames_123 rfl rfl ?_
                refine fv_iload_n (q := 126) dX7_frames_125 rfl rfl ?_
                refine fv_icmp_eq (q := 129) 133 dX7_frames_126 (by decide) rfl (fun c126 => ?_) (fun c126 => ?_)
                · rw [nI_eq (by omega) (by omega)] at c126
                  refine fv_iconst (v := 0) (q := 134) dX7_frames_133 (by decide) rfl ?_
                  refine fv_istore (q := 136) (l' := [_, _, _, _, _, _, _]) dX7_frames_134 (by decide) rfl rfl rfl ?_
                  refine fv_iload (q := 138) dX7_frames_136 rfl rfl ?_
                  refine fv_if_ne (q := 141) 162 dX7_frames_138 (by decide) rfl (fun c138 => absurd rfl c138) (fun c138 => ?_)
                  refine fv_aload_n (q := 142) dX7_frames_141 rfl rfl ?_
                  refine fl_getR (q := 145) dX7_frames_142 fX7_50 sh124 rfl rfl ?_
                  refine fv_aload_n (q := 146) dX7_frames_145 rfl rfl ?_
                  refine fl_getI (q := 149) dX7_frames_146 fX7_100 sh124 rfl rfl ?_
                  refine fv_top (y := nI (frL T n r k).length) hS.1 ?_
                  refine fv_iload (q := 151) dX7_frames_149 rfl rfl ?_
                  refine fl_iast (q := 152) (frL T n r k).length dX7_frames_151 sh138 (by decide) rfl (by omega) rfl ?_
                  refine fv_aload_n (q := 153) dX7_frames_152 rfl rfl ?_
                  refine fv_dup (q := 154) dX7_frames_153 rfl rfl ?_
                  refine fl_getI (q := 157) dX7_frames_154 fX7_100 sh124 rfl rfl ?_
                  refine fv_top (y := nI (frL T n r k).length) hS.1 ?_
                  refine fv_iconst (v := 1) (q := 158) dX7_frames_157 (by decide) rfl ?_
                  refine fv_iadd (q := 159) dX7_frames_158 rfl ?_
                  refine fl_putI (q := 162) dX7_frames_159 fX7_100 sh124 rfl rfl rfl rfl ?_
                  refine fv_iinc (v := _ + 1) (q := 165) (l' := [_, _, _, _, _, _, _]) dX7_frames_162 rfl rfl (by decide) rfl rfl rfl ?_
                  refine fv_goto 47 dX7_frames_165 (by decide) ?_
                  have ho : outB T r (lin T n k) = false := decide_eq_false (by rintro (x | x | x); exact c96 x.2; exact c103 x.1; exact x.2.1 c126)
                  have hin : inF T n r k = true := by rw [inF_ft hr hF hT2 (by omega) (by omega), ho, decide_eq_true ⟨by omega, by omega⟩]; rfl
                  have h9 := frL_s T n r k
                  rw [hin] at h9
                  simp only [if_true] at h9
                  rw [nI_1]
                  refine ih (by omega) (by omega) _ _ _ _ ((hK.ua (Or.inl rfl)).ux (x := 18) (by decide)) h16 h17 ⟨?_, ?_⟩
                  · rw [up_s, pk_us, h9, List.length_append]; exact nI_1 _
                  · rw [h9]
                    show holN (upd (E 138) _ (nI (lin T n k))) _
                    exact holN_push _ hS.2 rfl
                · rw [nI_eq (by omega) (by omega)] at c126
                  refine fv_iconst (v := 1) (q := 130) dX7_frames_129 (by decide) rfl ?_
                  refine fv_goto 134 dX7_frames_130 (by decide) ?_
                  refine fv_istore (q := 136) (l' := [_, _, _, _, _, _, _]) dX7_frames_134 (by decide) rfl rfl rfl ?_
                  refine fv_iload (q := 138) dX7_frames_136 rfl rfl ?_
                  refine fv_if_ne (q := 141) 162 dX7_frames_138 (by decide) rfl (fun c138 => ?_) (fun c138 => absurd c138 (by decide))
                  refine fv_iinc (v := _ + 1) (q := 165) (l' := [_, _, _, _, _, _, _]) dX7_frames_162 rfl rfl (by decide) rfl rfl rfl ?_
                  refine fv_goto 47 dX7_frames_165 (by decide) ?_
                  have ho : outB T r (lin T n k) = true := decide_eq_true (Or.inr (Or.inr ⟨c115, c126, hpa, c76.symm⟩))
                  have hin : inF T n r k = false := by rw [inF_ft hr hF hT2 (by omega) (by omega), ho, Bool.not_true, Bool.and_false]
                  have h9 := frL_s T n r k
                  rw [hin] at h9
                  simp only [Bool.false_eq_true, if_false, List.append_nil] at h9
                  rw [nI_1]
                  exact ih (by omega) (by omega) _ _ _ E hK h16 h17 (by rw [h9]; exact hS)
            · refine fv_iload (q := 108) dX7_frames_106 rfl rfl ?_
              refine fv_if_ne (q := 111) 129 dX7_frames_108 (by decide) rfl (fun c108 => ?_) (fun c108 => absurd c108 (by decide))
              refine fv_iconst (v := 1) (q := 130) dX7_frames_129 (by decide) rfl ?_
              refine fv_goto 134 dX7_frames_130 (by decide) ?_
              refine fv_istore (q := 136) (l' := [_, _, _, _, _, _, _]) dX7_frames_134 (by decide) rfl rfl rfl ?_
              refine fv_iload (q := 138) dX7_frames_136 rfl rfl ?_
              refine fv_if_ne (q := 141) 162 dX7_frames_138 (by decide) rfl (fun c138 => ?_) (fun c138 => absurd c138 (by decide))
              refine fv_iinc (v := _ + 1) (q := 165) (l' := [_, _, _, _, _, _, _]) dX7_frames_162 rfl rfl (by decide) rfl rfl rfl ?_
              refine fv_goto 47 dX7_frames_165 (by decide) ?_
              have ho : outB T r (lin T n k) = true := decide_eq_true (Or.inr (Or.inl ⟨c103, hpa, c76.symm⟩))
              have hin : inF T n r k = false := by rw [inF_ft hr hF hT2 (by omega) (by omega), ho, Bool.not_true, Bool.and_false]
              have h9 := frL_s T n r k
              rw [hin] at h9
              simp only [Bool.false_eq_true, if_false, List.append_nil] at h9
              rw [nI_1]
              exact ih (by omega) (by omega) _ _ _ E hK h16 h17 (by rw [h9]; exact hS)
  have fin : ∀ E : Nat → Nat → Int32, KF D E → FF T n r (E 124 16) → TT T n r (E 124 17) → E 124 18 = 0 → FV cX7_frames 7 none yX7_frames.cls yX7_frames.name 3 0 0 Post 0 0 47 [some (.ref 124), some (.ref a), some (.int (nI r)), some (.int (E 124 16)), none, none, none] [] (lay E J) := by
    intro E hK hF hT2 h18
    obtain ⟨t, h17⟩ : ∃ t, E 124 17 = t := ⟨_, rfl⟩
    rw [h17] at hT2
    have hF1 := hF.1
    have hF3 := hF.2.1
    have hS : FrS E [] := ⟨h18, holN_nil _⟩
    by_cases q : (E 124 16).toInt ≤ (pf T n r + pm T n r : Nat)
    · have e1 := fi_ofI (x := E 124 16) (by omega)
      have h9 := loop (E 124 16) t hF hT2 (E 124 16).toInt.toNat (by omega) (by omega) none none none E hK rfl h17 (by
        rw [frL_stop (k := 0) _ (Nat.zero_le _) (fun j g1 g2 => ?_)]
        · exact hS
        · rcases Nat.lt_or_ge j (pf T n r) with q | q
          · exact inF_out hr (by omega) (Or.inl q)
          · rw [inF_ft hr hF hT2 q (by omega), decide_eq_false (by omega), Bool.false_and])
      rw [← e1] at h9
      exact h9
    · skip
      refine fv_iload_n (q := 48) dX7_frames_47 rfl rfl ?_
      refine fv_aload_n (q := 49) dX7_frames_48 rfl rfl ?_
      refine fl_getI (q := 52) dX7_frames_49 fX7_87 sh124 rfl rfl ?_
      refine fv_top (y := t) h17 ?_
      refine fv_icmp_ge (q := 55) 168 dX7_frames_52 (by decide) rfl (fun c52 => ?_) (fun c52 => absurd (by rw [fa_le]; have := hT2.1; omega) c52)
      refine fv_vret dX7_frames_168 rfl rfl (Nat.le_refl _) ?_
      have e9 : frL T n r n = [] := by
        rw [← frL_end hr, frL_stop (k := 0) _ (Nat.zero_le _) (fun j g1 g2 => ?_)]
        · rfl
        · rcases Nat.lt_or_ge j (pf T n r) with q | q
          · exact inF_out hr (by omega) (Or.inl q)
          · rw [inF_ft hr hF hT2 q g2, decide_eq_false (by omega), Bool.false_and]
      exact hPost _ _ _ ⟨rfl, rfl, hK, by rw [e9]; exact hS⟩
  refine fv_aload_n (q := 1) dX7_frames_0 rfl rfl ?_
  refine fv_iconst (v := 1) (q := 2) dX7_frames_1 (by decide) rfl ?_
  refine fl_iald (q := 3) 1 dX7_frames_2 ha (by decide) rfl (by decide) rfl ?_
  refine fv_top (y := T 1) (hM 1 (by decide)) ?_
  refine fv_if_ne (q := 6) 15 dX7_frames_3 (by decide) rfl (fun c3 => ?_) (fun c3 => ?_)
  · refine fv_aload_n (q := 16) dX7_frames_15 rfl rfl ?_
    refine fv_iconst (v := 1) (q := 17) dX7_frames_16 (by decide) rfl ?_
    refine fl_iald (q := 18) 1 dX7_frames_17 ha (by decide) rfl (by decide) rfl ?_
    refine fv_top (y := T 1) (hM 1 (by decide)) ?_
    refine fv_iconst (v := 1) (q := 19) dX7_frames_18 (by decide) rfl ?_
    refine fv_icmp_ne (q := 22) 31 dX7_frames_19 (by decide) rfl (fun c19 => ?_) (fun c19 => ?_)
    · refine fv_aload_n (q := 32) dX7_frames_31 rfl rfl ?_
      refine fv_aload_n (q := 33) dX7_frames_32 rfl rfl ?_
      refine fv_iload_n (q := 34) dX7_frames_33 rfl rfl ?_
      refine fl_callV (As := [_, _]) (q := 37) dX7_frames_34 gX7_97 rfl sh124 rfl rfl (Nat.le_of_ble_eq_true rfl) rfl (by decide) (m_byGroups a ha D J T hM n v ha2 hL r hr c3 c19) (fun res D1 J1 hp => ?_)
      obtain ⟨rfl, rfl, hK, hF, hT2⟩ := hp
      refine fv_aload_n (q := 38) dX7_frames_37 rfl rfl ?_
      refine fv_iconst (v := 0) (q := 39) dX7_frames_38 (by decide) rfl ?_
      refine fl_putI (q := 42) dX7_frames_39 fX7_100 sh124 rfl rfl rfl rfl ?_
      refine fv_aload_n (q := 43) dX7_frames_42 rfl rfl ?_
      refine fl_getI (q := 46) dX7_frames_43 fX7_83 sh124 rfl rfl ?_
      refine fv_istore_n (i := 3) (q := 47) (l' := [_, _, _, _, _, _, _]) dX7_frames_46 rfl (by decide) rfl rfl rfl ?_
      exact fin _ (hK.kf.ux (x := 18) (by decide)) (by rw [up_s, pk_un (by decide)]; exact hF) (by rw [up_s, pk_un (by decide)]; exact hT2) (by rw [up_s, pk_us])
    · refine fv_aload_n (q := 23) dX7_frames_22 rfl rfl ?_
      refine fv_aload_n (q := 24) dX7_frames_23 rfl rfl ?_
      refine fv_iload_n (q := 25) dX7_frames_24 rfl rfl ?_
      refine fl_callV (As := [_, _]) (q := 28) dX7_frames_25 gX7_94 rfl sh124 rfl rfl (Nat.le_of_ble_eq_true rfl) rfl (by decide) (m_byKeys a ha D J T hM n v ha2 hL r hr c19) (fun res D1 J1 hp => ?_)
      obtain ⟨rfl, rfl, hK, hF, hT2⟩ := hp
      refine fv_goto 37 dX7_frames_28 (by decide) ?_
      refine fv_aload_n (q := 38) dX7_frames_37 rfl rfl ?_
      refine fv_iconst (v := 0) (q := 39) dX7_frames_38 (by decide) rfl ?_
      refine fl_putI (q := 42) dX7_frames_39 fX7_100 sh124 rfl rfl rfl rfl ?_
      refine fv_aload_n (q := 43) dX7_frames_42 rfl rfl ?_
      refine fl_getI (q := 46) dX7_frames_43 fX7_83 sh124 rfl rfl ?_
      refine fv_istore_n (i := 3) (q := 47) (l' := [_, _, _, _, _, _, _]) dX7_frames_46 rfl (by decide) rfl rfl rfl ?_
      exact fin _ (hK.kf.ux (x := 18) (by decide)) (by rw [up_s, pk_un (by decide)]; exact hF) (by rw [up_s, pk_un (by decide)]; exact hT2) (by rw [up_s, pk_us])
  · refine fv_aload_n (q := 7) dX7_frames_6 rfl rfl ?_
    refine fv_aload_n (q := 8) dX7_frames_7 rfl rfl ?_
    refine fv_iload_n (q := 9) dX7_frames_8 rfl rfl ?_
    refine fl_callV (As := [_, _]) (q := 12) dX7_frames_9 gX7_90 rfl sh124 rfl rfl (Nat.le_of_ble_eq_true rfl) rfl (by decide) (m_byPlaces a ha D J T hM n v ha2 hL r hr c3) (fun res D1 J1 hp => ?_)
    obtain ⟨rfl, rfl, hK, hF, hT2⟩ := hp
    refine fv_goto 37 dX7_frames_12 (by decide) ?_
    refine fv_aload_n (q := 38) dX7_frames_37 rfl rfl ?_
    refine fv_iconst (v := 0) (q := 39) dX7_frames_38 (by decide) rfl ?_
    refine fl_putI (q := 42) dX7_frames_39 fX7_100 sh124 rfl rfl rfl rfl ?_
    refine fv_aload_n (q := 43) dX7_frames_42 rfl rfl ?_
    refine fl_getI (q := 46) dX7_frames_43 fX7_83 sh124 rfl rfl ?_
    refine fv_istore_n (i := 3) (q := 47) (l' := [_, _, _, _, _, _, _]) dX7_frames_46 rfl (by decide) rfl rfl rfl ?_
    exact fin _ (hK.kf.ux (x := 18) (by decide)) (by rw [up_s, pk_un (by decide)]; exact hF) (by rw [up_s, pk_un (by decide)]; exact hT2) (by rw [up_s, pk_us])
