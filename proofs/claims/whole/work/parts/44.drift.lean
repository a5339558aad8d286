set_option maxHeartbeats 4000000 in
set_option maxRecDepth 100000 in
theorem c_addByDraws (D : Nat → Nat → Int32) (J : Nat → Nat → Int64) (T : Nat → Int32) (n : Nat) (s : Int32) (hT : TabOf D 3 T) (hn : D 3 3 = nI n) (h40 : n < 40) (hs : D 0 9 = s) : FD yX6_addByDraws cX6_addByDraws 4 none 1 [.ref 0] D J (fun res D' J' => res = none ∧ J' = J ∧ TabOf D' 3 (addT T n (dv (dw s) 3) (if (dv (dw (dw s)) 12) = 11 then 1000000 else (dv (dw (dw s)) 12)) (if (dv (dw (dw (dw s))) 21) = 20 then 1000000 else (dv (dw (dw (dw s))) 21) - 10)) ∧ D' 0 9 = dw (dw (dw s)) ∧ ∀ a, a ≠ 0 → (a < 3 ∨ 7 ≤ a) → D' a = D a) := by
  refine FD.of (by decide) rfl (Nat.le_of_ble_eq_true rfl) (fun Post hPost => ?_)
  show FV _ _ _ _ _ _ _ _ _ _ _ _ [_, _, _, _] [] _
  have hb := len1
  refine fv_aload_n (q := 1) dX6_addByDraws_0 rfl rfl ?_
  refine fv_iconst (v := 3) (q := 2) dX6_addByDraws_1 (by decide) rfl ?_
  refine fl_callV (As := [_]) (q := 5) dX6_addByDraws_2 gX6_228 rfl sh0 rfl rfl (Nat.le_of_ble_eq_true rfl) rfl (by decide) (c_draw D J 3 (by decide)) (fun res D1 J1 hp => ?_)
  obtain ⟨rfl, rfl, hD1⟩ := hp
  have hs1 : D1 0 9 = dw s := by rw [hD1, up_s, pk_us, hs]
  refine fv_top (y := dv (dw s) 3) (by rw [hs]) ?_
  refine fv_istore_n (i := 1) (q := 6) (l' := [_, _, _, _]) dX6_addByDraws_5 rfl (by decide) rfl rfl rfl ?_
  refine fv_aload_n (q := 7) dX6_addByDraws_6 rfl rfl ?_
  refine fv_bipush (v := 12) (q := 9) dX6_addByDraws_7 (by decide) rfl ?_
  refine fl_callV (As := [_]) (q := 12) dX6_addByDraws_9 gX6_228 rfl sh0 rfl rfl (Nat.le_of_ble_eq_true rfl) rfl (by decide) (c_draw D1 _ 12 (by decide)) (fun res2 D2 J2 hp => ?_)
  obtain ⟨rfl, rfl, hD2⟩ := hp
  have hs2 : D2 0 9 = dw (dw s) := by rw [hD2, up_s, pk_us, hs1]
  refine fv_top (y := dv (dw (dw s)) 12) (by rw [hs1]) ?_
  refine fv_istore_n (i := 2) (q := 13) (l' := [_, _, _, _]) dX6_addByDraws_12 rfl (by decide) rfl rfl rfl ?_
  refine fv_aload_n (q := 14) dX6_addByDraws_13 rfl rfl ?_
  refine fv_bipush (v := 21) (q := 16) dX6_addByDraws_14 (by decide) rfl ?_
  refine fl_callV (As := [_]) (q := 19) dX6_addByDraws_16 gX6_228 rfl sh0 rfl rfl (Nat.le_of_ble_eq_true rfl) rfl (by decide) (c_draw D2 _ 21 (by decide)) (fun res3 D3 J3 hp => ?_)
  obtain ⟨rfl, rfl, hD3⟩ := hp
  have hs3 : D3 0 9 = dw (dw (dw s)) := by rw [hD3, up_s, pk_us, hs2]
  refine fv_top (y := dv (dw (dw (dw s))) 21) (by rw [hs2]) ?_
  have hf3 : ∀ a, a ≠ 0 → D3 a = D a := fun a ha => by rw [hD3, up_n _ _ _ ha, hD2, up_n _ _ _ ha, hD1, up_n _ _ _ ha]
  have hT3 : TabOf D3 3 T := hT.of (hf3 _ (by decide)) (hf3 _ (by decide)) (hf3 _ (by decide)) (hf3 _ (by decide))
  generalize hx1 : dv (dw s) 3 = x1 at hPost ⊢
  generalize hx2 : dv (dw (dw s)) 12 = x2 at hPost ⊢
  generalize hx3 : dv (dw (dw (dw s))) 21 = x3 at hPost ⊢
  generalize hy3 : dw (dw (dw s)) = y3 at hPost hs3 ⊢
  refine fv_istore_n (i := 3) (q := 20) (l' := [_, _, _, _]) dX6_addByDraws_19 rfl (by decide) rfl rfl rfl ?_
  refine fv_aload_n (q := 21) dX6_addByDraws_20 rfl rfl ?_
  refine fl_getR (q := 24) dX6_addByDraws_21 fX6_27 sh0 rfl rfl ?_
  refine fv_iload_n (q := 25) dX6_addByDraws_24 rfl rfl ?_
  refine fv_iload_n (q := 26) dX6_addByDraws_25 rfl rfl ?_
  refine fv_bipush (v := 11) (q := 28) dX6_addByDraws_26 (by decide) rfl ?_
  refine fv_icmp_ne (q := 31) 36 dX6_addByDraws_28 (by decide) rfl (fun c28 => ?_) (fun c28 => ?_)
  · refine fv_iload_n (q := 37) dX6_addByDraws_36 rfl rfl ?_
    refine fv_iload_n (q := 38) dX6_addByDraws_37 rfl rfl ?_
    refine fv_bipush (v := 20) (q := 40) dX6_addByDraws_38 (by decide) rfl ?_
    refine fv_icmp_ne (q := 43) 48 dX6_addByDraws_40 (by decide) rfl (fun c40 => ?_) (fun c40 => ?_)
    · refine fv_iload_n (q := 49) dX6_addByDraws_48 rfl rfl ?_
      refine fv_bipush (v := 10) (q := 51) dX6_addByDraws_49 (by decide) rfl ?_
      refine fv_isub (q := 52) dX6_addByDraws_51 rfl ?_
      refine fl_callV (As := [_, _, _]) (q := 55) dX6_addByDraws_52 gX6_151 rfl hb.tab.sh.1 rfl rfl (Nat.le_of_ble_eq_true rfl) rfl (by decide) (c_add 3 tab3 n _ _ _ D3 _ (by rw [hf3 _ (by decide)]; exact hn) h40) (fun res4 D4 J4 hp => ?_)
      obtain ⟨rfl, rfl, hD4⟩ := hp
      refine fv_vret dX6_addByDraws_55 rfl rfl (Nat.le_refl _) ?_
      refine hPost _ _ _ ⟨rfl, rfl, ?_, by rw [hD4, up_n _ _ _ (by decide), up_n _ _ _ (by decide), up_n _ _ _ (by decide), up_n _ _ _ (by decide)]; exact hs3, fun a g0 g1 => by rw [hD4, up_n _ _ _ (by omega), up_n _ _ _ (by omega), up_n _ _ _ (by omega), up_n _ _ _ (by omega)]; exact hf3 a g0⟩
      rw [if_neg c28]
      rw [if_neg c40]
      rw [hD4]
      exact add_tab hT3 h40
    · refine fv_ldc (q := 45) dX6_addByDraws_43 kX6_209 rfl ?_
      refine fv_goto 52 dX6_addByDraws_45 (by decide) ?_
      refine fl_callV (As := [_, _, _]) (q := 55) dX6_addByDraws_52 gX6_151 rfl hb.tab.sh.1 rfl rfl (Nat.le_of_ble_eq_true rfl) rfl (by decide) (c_add 3 tab3 n _ _ _ D3 _ (by rw [hf3 _ (by decide)]; exact hn) h40) (fun res4 D4 J4 hp => ?_)
      obtain ⟨rfl, rfl, hD4⟩ := hp
      refine fv_vret dX6_addByDraws_55 rfl rfl (Nat.le_refl _) ?_
      refine hPost _ _ _ ⟨rfl, rfl, ?_, by rw [hD4, up_n _ _ _ (by decide), up_n _ _ _ (by decide), up_n _ _ _ (by decide), up_n _ _ _ (by decide)]; exact hs3, fun a g0 g1 => by rw [hD4, up_n _ _ _ (by omega), up_n _ _ _ (by omega), up_n _ _ _ (by omega), up_n _ _ _ (by omega)]; exact hf3 a g0⟩
      rw [if_neg c28]
      rw [if_pos c40]
      rw [hD4]
      exact add_tab hT3 h40
  · refine fv_ldc (q := 33) dX6_addByDraws_31 kX6_209 rfl ?_
    refine fv_goto 37 dX6_addByDraws_33 (by decide) ?_
    refine fv_iload_n (q := 38) dX6_addByDraws_37 rfl rfl ?_
    refine fv_bipush (v := 20) (q := 40) dX6_addByDraws_38 (by decide) rfl ?_
    refine fv_icmp_ne (q := 43) 48 dX6_addByDraws_40 (by decide) rfl (fun c40 => ?_) (fun c40 => ?_)
    · refine fv_iload_n (q := 49) dX6_addByDraws_48 rfl rfl ?_
      refine fv_bipush (v := 10) (q := 51) dX6_addByDraws_49 (by decide) rfl ?_
      refine fv_isub (q := 52) dX6_addByDraws_51 rfl ?_
      refine fl_callV (As := [_, _, _]) (q := 55) dX6_addByDraws_52 gX6_151 rfl hb.tab.sh.1 rfl rfl (Nat.le_of_ble_eq_true rfl) rfl (by decide) (c_add 3 tab3 n _ _ _ D3 _ (by rw [hf3 _ (by decide)]; exact hn) h40) (fun res4 D4 J4 hp => ?_)
      obtain ⟨rfl, rfl, hD4⟩ := hp
      refine fv_vret dX6_addByDraws_55 rfl rfl (Nat.le_refl _) ?_
      refine hPost _ _ _ ⟨rfl, rfl, ?_, by rw [hD4, up_n _ _ _ (by decide), up_n _ _ _ (by decide), up_n _ _ _ (by decide), up_n _ _ _ (by decide)]; exact hs3, fun a g0 g1 => by rw [hD4, up_n _ _ _ (by omega), up_n _ _ _ (by omega), up_n _ _ _ (by omega), up_n _ _ _ (by omega)]; exact hf3 a g0⟩
      rw [if_pos c28]
      rw [if_neg c40]
      rw [hD4]
      exact add_tab hT3 h40
    · refine fv_ldc (q := 45) dX6_addByDraws_43 kX6_209 rfl ?_
      refine fv_goto 52 dX6_addByDraws_45 (by decide) ?_
      refine fl_callV (As := [_, _, _]) (q := 55) dX6_addByDraws_52 gX6_151 rfl hb.tab.sh.1 rfl rfl (Nat.le_of_ble_eq_true rfl) rfl (by decide) (c_add 3 tab3 n _ _ _ D3 _ (by rw [hf3 _ (by decide)]; exact hn) h40) (fun res4 D4 J4 hp => ?_)
      obtain ⟨rfl, rfl, hD4⟩ := hp
      refine fv_vret dX6_addByDraws_55 rfl rfl (Nat.le_refl _) ?_
      refine hPost _ _ _ ⟨rfl, rfl, ?_, by rw [hD4, up_n _ _ _ (by decide), up_n _ _ _ (by decide), up_n _ _ _ (by decide), up_n _ _ _ (by decide)]; exact hs3, fun a g0 g1 => by rw [hD4, up_n _ _ _ (by omega), up_n _ _ _ (by omega), up_n _ _ _ (by omega), up_n _ _ _ (by omega)]; exact hf3 a g0⟩
      rw [if_pos c28]
      rw [if_pos c40]
      rw [hD4]
      exact add_tab hT3 h40
theorem f_d1_eq (σ : Sg) : f_d1 σ = (addT σ.1 σ.2.1 (dv (dw σ.2.2.2.2.2) 3) (if dv (dw (dw σ.2.2.2.2.2)) 12 = 11 then 1000000 else dv (dw (dw σ.2.2.2.2.2)) 12) (if dv (dw (dw (dw σ.2.2.2.2.2))) 21 = 20 then 1000000 else dv (dw (dw (dw σ.2.2.2.2.2))) 21 - 10), σ.2.1 + 1, tk σ.1 σ.2.2.1, σ.2.2.2.1, σ.2.2.2.2.1, dw (dw (dw σ.2.2.2.2.2))) := rfl
def XU (D : Nat → Nat → Int32) (σ : Sg) : Prop := TabOf D 3 σ.1 ∧ HisOf D σ.2.2.1 ∧ ImgOf D σ.2.2.2.1 ∧ BookOf D σ.2.2.2.2.1 ∧ D 0 9 = σ.2.2.2.2.2
theorem XU.mk {D : Nat → Nat → Int32} {T : Nat → Int32} {n : Nat} {P : List (Nat → Int32)} {I : Nat → Option ((Nat → Int32) × Int32)} {B : List (Nat × Int32 × Int32)} {s : Int32} (h1 : TabOf D 3 T) (h2 : HisOf D P) (h3 : ImgOf D I) (h4 : BookOf D B) (h5 : D 0 9 = s) : XU D (T, n, P, I, B, s) := ⟨h1, h2, h3, h4, h5⟩
set_option maxHeartbeats 4000000 in
set_option maxRecDepth 100000 in
theorem c_drift (D : Nat → Nat → Int32) (J : Nat → Nat → Int64) (σ : Sg) (hX : XR D σ) (ok : SgOk σ) (c : Int32) : FD yX6_drift cX6_drift 3 (some .int) 4 [.ref 0, .int c] D J (fun res D' J' => res = some (.int (f_drift σ c).1) ∧ XR D' (f_drift σ c).2 ∧ KX D D' J J') := by
  refine FD.of (by decide) rfl (Nat.le_of_ble_eq_true rfl) (fun Post hPost => ?_)
  show FV _ _ _ _ _ _ _ _ _ _ _ _ [_, _, _] [] _
  have hX0 : XU D σ := ⟨hX.1, hX.2.2.1, hX.2.2.2.1, hX.2.2.2.2.1, hX.2.2.2.2.2⟩
  have hb := len1
  have loop : ∀ m, 1 ≤ m → m ≤ 20 → c = nI m → c.toNatClampNeg = m → wth c 1 20 = true → FV cX6_drift 3 (some .int) yX6_drift.cls yX6_drift.name 4 0 0 Post 0 0 15 [some (.ref 0), some (.int (nI m)), some (.int (nI 0))] [] (lay D J) := by
    intro m hm1 hm2 hcm hcc hw
    have okm := ok_dn ok m
    have e9 : f_drift σ c = (nI (f_dn σ m).2.1, f_dn σ m) := by unfold f_drift; rw [if_neg (by rw [hw]; decide), hcc]
    have fin : ∀ (l2 : Option Value) (E : Nat → Nat → Int32), XU E (f_dn σ m) → (∀ a, 124 ≤ a → E a = D a) → FV cX6_drift 3 (some .int) yX6_drift.cls yX6_drift.name 4 0 0 Post 0 0 53 [some (.ref 0), some (.int (nI m)), l2] [] (lay E J) := by
      intro l2 E hU hk
      refine fv_aload_n (q := 54) dX6_drift_53 rfl rfl ?_
      refine fl_getR (q := 57) dX6_drift_54 fX6_20 sh0 rfl rfl ?_
      refine fl_callV (As := []) (q := 60) dX6_drift_57 gX6_155 rfl hb.ord rfl rfl (Nat.le_of_ble_eq_true rfl) rfl (by decide) (c_settle 1 len1 E _ (f_dn σ m).1 (f_dn σ m).2.1 hU.1 okm.1) (fun res3 D3 J3 hp => ?_)
      obtain ⟨rfl, rfl, hO3, hf3⟩ := hp
      have hT3 : TabOf D3 3 (f_dn σ m).1 := hU.1.of (hf3 _ (by decide) (by decide) (by decide) (by decide)) (hf3 _ (by decide) (by decide) (by decide) (by decide)) (hf3 _ (by decide) (by decide) (by decide) (by decide)) (hf3 _ (by decide) (by decide) (by decide) (by decide))
      refine fv_aload_n (q := 61) dX6_drift_60 rfl rfl ?_
      refine fl_getR (q := 64) dX6_drift_61 fX6_27 sh0 rfl rfl ?_
      refine fl_getI (q := 67) dX6_drift_64 fX6_62 hb.tab.sh.1 rfl rfl ?_
      refine fv_top (hT3.n okm.1) ?_
      refine fv_iret dX6_drift_67 rfl rfl (Nat.le_refl _) ?_
      refine hPost _ _ _ ⟨by rw [e9], ?_, fun a ha => by rw [hf3 a (by omega) (by omega) (by omega) (by omega)]; exact hk a ha, fun _ _ => rfl⟩
      rw [e9]
      exact ⟨hT3, hO3, hU.2.1.of (fun a g1 g2 => hf3 a (by omega) (by omega) (by omega) (by omega)), hU.2.2.1.of (fun a g1 g2 => hf3 a (by omega) (by omega) (by omega) (by omega)), hU.2.2.2.1.of (hf3 _ (by decide) (by decide) (by decide) (by decide)) (hf3 _ (by decide) (by decide) (by decide) (by decide)) (hf3 _ (by decide) (by decide) (by decide) (by decide)) (hf3 _ (by decide) (by decide) (by decide) (by decide)), by rw [hf3 _ (by decide) (by decide) (by decide) (by decide)]; exact hU.2.2.2.2⟩
    have lp : ∀ i, i ≤ m → ∀ E : Nat → Nat → Int32, XU E (f_dn σ i) → (∀ a, 124 ≤ a → E a = D a) → FV cX6_drift 3 (some .int) yX6_drift.cls yX6_drift.name 4 0 0 Post 0 0 15 [some (.ref 0), some (.int (nI m)), some (.int (nI i))] [] (lay E J) := by
      refine up_ind (fun i hi ih => ?_)
      intro E hU hk
      have oki := ok_dn ok i
      refine fv_iload_n (q := 16) dX6_drift_15 rfl rfl ?_
      refine fv_iload_n (q := 17) dX6_drift_16 rfl rfl ?_
      refine fv_icmp_ge (q := 20) 53 dX6_drift_17 (by decide) rfl (fun c17 => ?_) (fun c17 => ?_)
      · rw [nI_leI (by omega) (by omega)] at c17
        have him : i = m := by omega
        subst him
        exact fin _ E hU hk
      · rw [nI_leI (by omega) (by omega)] at c17
        refine fv_aload_n (q := 21) dX6_drift_20 rfl rfl ?_
        refine fl_getR (q := 24) dX6_drift_21 fX6_27 sh0 rfl rfl ?_
        refine fl_getI (q := 27) dX6_drift_24 fX6_62 hb.tab.sh.1 rfl rfl ?_
        refine fv_top (hU.1.n oki.1) ?_
        refine fv_bipush (v := 40) (q := 29) dX6_drift_27 (by decide) rfl ?_
        refine fv_icmp_ge (q := 32) 53 dX6_drift_29 (by decide) rfl (fun c29 => ?_) (fun c29 => ?_)
        · have h4 : ¬ (f_dn σ i).2.1 < 40 := fun z => absurd (show nI 40 ≤ _ from c29) (nI_ge z (by decide))
          refine fin _ E ?_ hk
          rw [show m = i + (m - i) by omega, dn_stop h4]
          exact hU
        · have h4 : (f_dn σ i).2.1 < 40 := by
            rcases Nat.lt_or_ge (f_dn σ i).2.1 40 with q | q
            · exact q
            · exact absurd (show nI 40 ≤ _ from nI_le q (by have := oki.1.2.1; omega)) c29
          refine fv_aload_n (q := 33) dX6_drift_32 rfl rfl ?_
          refine fl_getR (q := 36) dX6_drift_33 fX6_40 sh0 rfl rfl ?_
          refine fv_aload_n (q := 37) dX6_drift_36 rfl rfl ?_
          refine fl_getR (q := 40) dX6_drift_37 fX6_27 sh0 rfl rfl ?_
          refine fl_callV (As := [_]) (q := 43) dX6_drift_40 gX6_147 rfl sh27 rfl rfl (Nat.le_of_ble_eq_true rfl) rfl (by decide) (c_remember E J (f_dn σ i).2.2.1 hU.2.1 (f_dn σ i).1 hU.1 (by rw [hU.1.1 5 (by decide)]; exact oki.1.2.2.1)) (fun res D1 J1 hp => ?_)
          obtain ⟨rfl, rfl, hH1, hf1⟩ := hp
          have hT1 : TabOf D1 3 (f_dn σ i).1 := hU.1.of (hf1 _ (by decide)) (hf1 _ (by decide)) (hf1 _ (by decide)) (hf1 _ (by decide))
          refine fv_aload_n (q := 44) dX6_drift_43 rfl rfl ?_
          refine fl_callV (As := []) (q := 47) dX6_drift_44 gX6_179 rfl sh0 rfl rfl (Nat.le_of_ble_eq_true rfl) rfl (by decide) (c_addByDraws D1 _ (f_dn σ i).1 (f_dn σ i).2.1 (f_dn σ i).2.2.2.2.2 hT1 (hT1.n oki.1) h4 (by rw [hf1 _ (by decide)]; exact hU.2.2.2.2)) (fun res2 D2 J2 hp => ?_)
          obtain ⟨rfl, rfl, hT2, hs2, hf2⟩ := hp
          refine fv_iinc (v := _ + 1) (q := 50) (l' := [_, _, _]) dX6_drift_47 rfl rfl (by decide) rfl rfl rfl ?_
          refine fv_goto 15 dX6_drift_50 (by decide) ?_
          rw [nI_1]
          refine ih (by omega) D2 ?_ (fun a ha => by rw [hf2 a (by omega) (by omega), hf1 a (by omega)]; exact hk a ha)
          have e8 : f_dn σ (i + 1) = f_d1 (f_dn σ i) := by rw [f_dn, if_pos h4]
          rw [e8, f_d1_eq]
          exact XU.mk hT2 (hH1.of (fun a g1 g2 => hf2 a (by omega) (by omega))) (hU.2.2.1.of (fun a g1 g2 => by rw [hf2 a (by omega) (by omega), hf1 a (by omega)])) (hU.2.2.2.1.of (by rw [hf2 _ (by decide) (by decide), hf1 _ (by decide)]) (by rw [hf2 _ (by decide) (by decide), hf1 _ (by decide)]) (by rw [hf2 _ (by decide) (by decide), hf1 _ (by decide)]) (by rw [hf2 _ (by decide) (by decide), hf1 _ (by decide)])) hs2
    exact lp 0 (Nat.zero_le _) D hX0 (fun _ _ => rfl)
  refine fv_iload_n (q := 1) dX6_drift_0 rfl rfl ?_
  refine fv_iconst (v := 1) (q := 2) dX6_drift_1 (by decide) rfl ?_
  refine fv_bipush (v := 20) (q := 4) dX6_drift_2 (by decide) rfl ?_
  refine fl_callSi (As := [_, _, _]) (q := 7) dX6_drift_4 gX6_162 rfl rfl (Nat.le_of_ble_eq_true rfl) rfl (by decide) (c_within D J c 1 20) ?_
  refine fv_if_ne (q := 10) 13 dX6_drift_7 (by decide) rfl (fun c7 => ?_) (fun c7 => ?_)
  · rw [bi_n'] at c7
    obtain ⟨m, hm1, hm2, hcm, hcc⟩ := wth_n (a := 1) (b := 20) c7 (by decide) (by decide)
    refine fv_iconst (v := 0) (q := 14) dX6_drift_13 (by decide) rfl ?_
    refine fv_istore_n (i := 2) (q := 15) (l' := [_, _, _]) dX6_drift_14 rfl (by decide) rfl rfl rfl ?_
    have h9 := loop m hm1 hm2 hcm hcc c7
    rw [← hcm] at h9
    exact h9
  · rw [bi_0] at c7
    refine fv_ldc (q := 12) dX6_drift_10 kX6_99 rfl ?_
    refine fv_iret dX6_drift_12 rfl rfl (Nat.le_refl _) ?_
    have e9 : f_drift σ c = (-1000000002, σ) := by unfold f_drift; rw [if_pos c7]
    exact hPost _ _ _ ⟨by rw [e9], by rw [e9]; exact hX, KX.rf⟩
