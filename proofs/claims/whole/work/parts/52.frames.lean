/-! the model: frames -/
theorem nI_mm {t : Nat} (h : 0 < t) : nI t - 1 = nI (t - 1) := by
  obtain ⟨k, rfl⟩ : ∃ k, t = k + 1 := ⟨t - 1, by omega⟩
  exact nI_pred k
theorem ndec {a b : Prop} [Decidable a] [Decidable b] (h : a ↔ b) : decide a = decide b := by simp [h]
def FF (T : Nat → Int32) (n r : Nat) (f : Int32) : Prop := (pf T n r : Int) ≤ f.toInt ∧ f.toInt ≤ 100 ∧ ∀ k : Nat, pf T n r ≤ k → k < pf T n r + pm T n r → (f.toInt ≤ (k : Int) ↔ loz T n r ≤ msz T n k)
def TT (T : Nat → Int32) (n r : Nat) (t : Int32) : Prop := t.toInt ≤ (pf T n r : Int) + (pm T n r : Int) ∧ ∀ k : Nat, pf T n r ≤ k → k < pf T n r + pm T n r → ((k : Int) < t.toInt ↔ msz T n k ≤ hiz T n r)
theorem FF_n {T : Nat → Int32} {n r f : Nat} (v : VT T n) (hr : r < n) (h1 : pf T n r ≤ f) (h0 : f ≤ pf T n r + pm T n r) (h2 : ∀ k, pf T n r ≤ k → k < f → msz T n k < loz T n r) (h3 : f < pf T n r + pm T n r → loz T n r ≤ msz T n f) : FF T n r (nI f) := by
  have hl := part_le (T := T) (n := n) (r := r)
  have := v.2.1
  refine ⟨by rw [nI_toInt (by omega)]; omega, by rw [nI_toInt (by omega)]; omega, fun k hk hk2 => ?_⟩
  rw [nI_toInt (by omega), ← from_ok v hr h1 h2 h3 hk hk2]
  omega
theorem TT_n {T : Nat → Int32} {n r t : Nat} (v : VT T n) (hr : r < n) (h1 : t ≤ pf T n r + pm T n r) (h2 : ∀ k, t ≤ k → k < pf T n r + pm T n r → hiz T n r < msz T n k) (h3 : pf T n r < t → msz T n (t - 1) ≤ hiz T n r) : TT T n r (nI t) := by
  have hl := part_le (T := T) (n := n) (r := r)
  have := v.2.1
  refine ⟨by rw [nI_toInt (by omega)]; omega, fun k hk hk2 => ?_⟩
  rw [nI_toInt (by omega), ← to_ok v hr h1 h2 h3 hk hk2]
  omega
theorem FF_open {T : Nat → Int32} {n r : Nat} (v : VT T n) (hr : r < n) (h : T 2 = 99) : FF T n r (nI (pf T n r)) := by
  have hl := part_le (T := T) (n := n) (r := r)
  have hp := pf_lt (T := T) hr
  refine FF_n v hr (Nat.le_refl _) (by omega) (fun k h1 h2 => by omega) (fun _ => ?_)
  unfold loz; rw [if_pos h]
  have := msz_b v hp
  omega
theorem TT_open {T : Nat → Int32} {n r : Nat} (v : VT T n) (hr : r < n) (h : T 3 = 99) : TT T n r (nI (pf T n r + pm T n r)) := by
  have hl := part_le (T := T) (n := n) (r := r)
  refine TT_n v hr (Nat.le_refl _) (fun k h1 h2 => by omega) (fun _ => ?_)
  unfold hiz; rw [if_pos h]
  have := msz_b v (k := pf T n r + pm T n r - 1) (by omega)
  omega
theorem msz_pl {T : Nat → Int32} {n r k : Nat} (hr : r < n) (h : T 1 = 0) (hk : pf T n r ≤ k) (hk2 : k < pf T n r + pm T n r) : msz T n k = (k : Int) - (pf T n r : Int) := by
  have hl := part_le (T := T) (n := n) (r := r)
  unfold msz
  rw [if_pos h, pf_eq ((in_part hr (by omega)).mpr ⟨hk, hk2⟩)]
theorem FF_pl {T : Nat → Int32} {n r : Nat} (v : VT T n) (hr : r < n) (h : T 1 = 0) (h2 : ¬ T 2 = 99) : FF T n r (if nI (pos T n r) + T 2 < nI (pf T n r) then nI (pf T n r) else nI (pos T n r) + T 2) := by
  have hl := part_le (T := T) (n := n) (r := r)
  have hp := pos_part (T := T) hr
  have hb := bnd_b v.2.2.2.1 h2
  have h40 := v.2.1
  have e1 : (nI (pos T n r)).toInt = (pos T n r : Int) := nI_toInt (by omega)
  have e2 : (nI (pf T n r)).toInt = (pf T n r : Int) := nI_toInt (by omega)
  have e3 : (nI (pos T n r) + T 2).toInt = (pos T n r : Int) + (T 2).toInt := by rw [fb_addI (by omega) (by omega), e1]
  have hz : loz T n r = (pos T n r : Int) - (pf T n r : Int) + (T 2).toInt := by
    unfold loz
    rw [if_neg h2, if_neg (fun z => by have := z.1; rw [h] at this; exact absurd this (by decide)), msz_pl hr h hp.1 hp.2]
  unfold FF
  split
  · rename_i g
    rw [fa_lt, e2, e3] at g
    rw [e2, hz]
    refine ⟨Int.le_refl _, by omega, fun k hk hk2 => ?_⟩
    rw [msz_pl hr h hk hk2]; omega
  · rename_i g
    rw [fa_lt, e2, e3] at g
    rw [e3, hz]
    refine ⟨by omega, by omega, fun k hk hk2 => ?_⟩
    rw [msz_pl hr h hk hk2]; omega
theorem TT_pl {T : Nat → Int32} {n r : Nat} (v : VT T n) (hr : r < n) (h : T 1 = 0) (h2 : ¬ T 3 = 99) : TT T n r (if nI (pf T n r + pm T n r) < nI (pos T n r) + T 3 + 1 then nI (pf T n r + pm T n r) else nI (pos T n r) + T 3 + 1) := by
  have hl := part_le (T := T) (n := n) (r := r)
  have hp := pos_part (T := T) hr
  have hb := bnd_b v.2.2.2.2.1 h2
  have h40 := v.2.1
  have e1 : (nI (pos T n r)).toInt = (pos T n r : Int) := nI_toInt (by omega)
  have e2 : (nI (pf T n r + pm T n r)).toInt = (pf T n r : Int) + (pm T n r : Int) := by rw [nI_toInt (by omega)]; omega
  have e3 : (nI (pos T n r) + T 3).toInt = (pos T n r : Int) + (T 3).toInt := by rw [fb_addI (by omega) (by omega), e1]
  have o1 : (1 : Int32).toInt = 1 := by decide
  have e4 : (nI (pos T n r) + T 3 + 1).toInt = (pos T n r : Int) + (T 3).toInt + 1 := by rw [fb_addI (by omega) (by omega), e3, o1]
  have hz : hiz T n r = (pos T n r : Int) - (pf T n r : Int) + (T 3).toInt := by
    unfold hiz
    rw [if_neg h2, if_neg (fun z => by have := z.1; rw [h] at this; exact absurd this (by decide)), msz_pl hr h hp.1 hp.2]
  unfold TT
  split
  · rename_i g
    rw [fa_lt, e2, e4] at g
    rw [e2, hz]
    refine ⟨Int.le_refl _, fun k hk hk2 => ?_⟩
    rw [msz_pl hr h hk hk2]; omega
  · rename_i g
    rw [fa_lt, e2, e4] at g
    rw [e4, hz]
    refine ⟨by omega, fun k hk hk2 => ?_⟩
    rw [msz_pl hr h hk hk2]; omega
theorem h1n0 {T : Nat → Int32} (h : T 1 = 1) : ¬ T 1 = 0 := fun z => by rw [h] at z; exact absurd z (by decide)
theorem msz_ky {T : Nat → Int32} {n k : Nat} (h : T 1 = 1) : msz T n k = oz T (lin T n k) := by
  unfold msz; rw [if_neg (h1n0 h), if_pos h]
theorem g_part {T : Nat → Int32} {n r : Nat} (v : VT T n) (hr : r < n) : pf T n r ≤ gf T n r ∧ gf T n r ≤ pos T n r ∧ pos T n r < gf T n r + gm T n r ∧ gf T n r + gm T n r ≤ pf T n r + pm T n r := by
  have h1 : gf T n r ≤ pos T n r ∧ pos T n r < gf T n r + gm T n r := cl_pos (pkK v) hr
  have hp := pos_part (T := T) hr
  have hl : gf T n r + gm T n r ≤ n := cl_le
  have q : ∀ k, gf T n r ≤ k → k < gf T n r + gm T n r → pf T n r ≤ k ∧ k < pf T n r + pm T n r := fun k h2 h3 => (in_part hr (by omega)).mp ((pk_iff v (lin_lt (by omega)) hr).mp ((cl_lin (pkK v) (by omega) hr).mpr ⟨h2, h3⟩)).1
  have q1 := q (gf T n r) (Nat.le_refl _) (by omega)
  have q2 := q (gf T n r + gm T n r - 1) (by omega) (by omega)
  omega
theorem g_peer {T : Nat → Int32} {n r k : Nat} (v : VT T n) (hr : r < n) (hk : pf T n r ≤ k) (hk2 : k < pf T n r + pm T n r) : oz T (lin T n k) = oz T r ↔ gf T n r ≤ k ∧ k < gf T n r + gm T n r := by
  have hl := part_le (T := T) (n := n) (r := r)
  have hkn : k < n := by omega
  rw [show (gf T n r ≤ k ∧ k < gf T n r + gm T n r) ↔ pk2 T (lin T n k) = pk2 T r from (cl_lin (pkK v) hkn hr).symm, pk_iff v (lin_lt hkn) hr, ke_oz v (lin_lt hkn) hr]
  exact ⟨fun h => ⟨(in_part hr hkn).mpr ⟨hk, hk2⟩, h⟩, fun h => h.2⟩
theorem FF_miss {T : Nat → Int32} {n r : Nat} (v : VT T n) (hr : r < n) (h : T 1 = 1) (hm : ke T r = 1000000) (h2 : ¬ T 2 = 99) : FF T n r (nI (gf T n r)) := by
  obtain ⟨q1, q2, q3, q4⟩ := g_part v hr
  have hz : loz T n r = oz T r := by unfold loz; rw [if_neg h2, if_pos ⟨h, hm⟩, msz_ky h, lin_pos hr]
  refine FF_n v hr q1 (by omega) (fun k hk hk2 => ?_) (fun _ => ?_)
  · have a := msz_mono v hr hk (show k ≤ pos T n r by omega) (by omega)
    have b := mt (g_peer v hr hk (by omega)).mp (by omega)
    rw [msz_ky h, msz_ky h, lin_pos hr] at a
    rw [hz, msz_ky h]; omega
  · rw [hz, msz_ky h, (g_peer v hr q1 (by omega)).mpr ⟨Nat.le_refl _, by omega⟩]; exact Int.le_refl _
theorem TT_miss {T : Nat → Int32} {n r : Nat} (v : VT T n) (hr : r < n) (h : T 1 = 1) (hm : ke T r = 1000000) (h2 : ¬ T 3 = 99) : TT T n r (nI (gf T n r + gm T n r)) := by
  obtain ⟨q1, q2, q3, q4⟩ := g_part v hr
  have hz : hiz T n r = oz T r := by unfold hiz; rw [if_neg h2, if_pos ⟨h, hm⟩, msz_ky h, lin_pos hr]
  refine TT_n v hr q4 (fun k hk hk2 => ?_) (fun _ => ?_)
  · have a := msz_mono v hr (j := pos T n r) (k := k) (by omega) (by omega) (by omega)
    have b := mt (g_peer v hr (k := k) (by omega) (by omega)).mp (by omega)
    rw [msz_ky h, msz_ky h, lin_pos hr] at a
    rw [hz, msz_ky h]; omega
  · rw [hz, msz_ky h, (g_peer v hr (k := gf T n r + gm T n r - 1) (by omega) (by omega)).mpr ⟨by omega, by omega⟩]; exact Int.le_refl _
theorem key_b {k : Int32} (h : isKeyI k) (hm : ¬ k = 1000000) : -99 ≤ k.toInt ∧ k.toInt ≤ 99 := by
  rcases h with h | h
  · exact absurd h hm
  · exact h
theorem okk_n {T : Nat → Int32} {k : Int32} (hm : ¬ k = 1000000) : okk T k = k := by unfold okk; rw [if_neg (fun z => hm z.1)]
theorem oz_ky {T : Nat → Int32} {r : Nat} (hm : ¬ ke T r = 1000000) : oz T r = (ke T r).toInt := by unfold oz od; rw [okk_n hm]
theorem oz_m1 {T : Nat → Int32} {r : Nat} (hm : ke T r = 1000000) (h5 : T 5 = 1) : oz T r = -1000000 := by
  unfold oz od okk; rw [if_pos ⟨hm, h5⟩]; decide
theorem oz_m0 {T : Nat → Int32} {r : Nat} (hm : ke T r = 1000000) (h5 : ¬ T 5 = 1) : oz T r = 1000000 := by
  unfold oz od okk; rw [if_neg (fun z => h5 z.2), hm]; decide
theorem kF {T : Nat → Int32} {n r f : Nat} (v : VT T n) (hr : r < n) (hf : f < n) (h : T 1 = 1) (hm : ¬ ke T r = 1000000) (h2 : ¬ T 2 = 99) : msz T n f < loz T n r ↔ ((ke T (lin T n f) = 1000000 ∧ T 5 = 1) ∨ ke T (lin T n f) < ke T r + T 2) := by
  have hk := key_b (v.2.2.2.2.2 r hr).2.1 hm
  have hb := bnd_b v.2.2.2.1 h2
  have e : (ke T r + T 2).toInt = (ke T r).toInt + (T 2).toInt := fb_addI (by omega) (by omega)
  have hz : loz T n r = (ke T r).toInt + (T 2).toInt := by unfold loz; rw [if_neg h2, if_neg (fun z => hm z.2), msz_ky h, lin_pos hr, oz_ky hm]
  rw [hz, msz_ky h, fa_lt, e]
  by_cases m : ke T (lin T n f) = 1000000
  · have em : (ke T (lin T n f)).toInt = 1000000 := by rw [m]; decide
    by_cases h5 : T 5 = 1
    · rw [oz_m1 m h5]; exact ⟨fun _ => Or.inl ⟨m, h5⟩, fun _ => by omega⟩
    · rw [oz_m0 m h5]; exact ⟨fun z => by omega, fun z => by rcases z with z | z; exact absurd z.2 h5; omega⟩
  · rw [oz_ky m]; exact ⟨fun z => Or.inr z, fun z => by rcases z with z | z; exact absurd z.1 m; exact z⟩
theorem kT {T : Nat → Int32} {n r f : Nat} (v : VT T n) (hr : r < n) (hf : f < n) (h : T 1 = 1) (hm : ¬ ke T r = 1000000) (h2 : ¬ T 3 = 99) : hiz T n r < msz T n f ↔ ((ke T (lin T n f) = 1000000 ∧ T 5 = 0) ∨ (¬ ke T (lin T n f) = 1000000 ∧ ke T r + T 3 < ke T (lin T n f))) := by
  have hk := key_b (v.2.2.2.2.2 r hr).2.1 hm
  have hb := bnd_b v.2.2.2.2.1 h2
  have e : (ke T r + T 3).toInt = (ke T r).toInt + (T 3).toInt := fb_addI (by omega) (by omega)
  have hz : hiz T n r = (ke T r).toInt + (T 3).toInt := by unfold hiz; rw [if_neg h2, if_neg (fun z => hm z.2), msz_ky h, lin_pos hr, oz_ky hm]
  rw [hz, msz_ky h, fa_lt, e]
  by_cases m : ke T (lin T n f) = 1000000
  · rcases v.2.2.1 with h5 | h5
    · rw [oz_m0 m (by rw [h5]; decide)]; exact ⟨fun _ => Or.inl ⟨m, h5⟩, fun _ => by omega⟩
    · rw [oz_m1 m h5]; exact ⟨fun z => by omega, fun z => by rcases z with z | z; exact absurd z.2 (by rw [h5]; decide); exact absurd m z.1⟩
  · rw [oz_ky m]; exact ⟨fun z => Or.inr ⟨m, z⟩, fun z => by rcases z with z | z; exact absurd z.1 m; exact z.2⟩
theorem msz_gr {T : Nat → Int32} {n k : Nat} (h0 : ¬ T 1 = 0) (h : ¬ T 1 = 1) : msz T n k = (grk T n k : Int) := by
  unfold msz; rw [if_neg h0, if_neg h]
theorem gr_lin {T : Nat → Int32} {n k : Nat} (hk : k < n) : gr T n (lin T n k) = grk T n k := by unfold gr; rw [pos_lin hk]
theorem gr_b {T : Nat → Int32} {n r : Nat} (hr : r < n) : gr T n r < n := Nat.lt_of_le_of_lt (grk_le T n _) (pos_lt hr)
theorem gF {T : Nat → Int32} {n r f : Nat} (v : VT T n) (hr : r < n) (hf : f < n) (h0 : ¬ T 1 = 0) (h : ¬ T 1 = 1) (h2 : ¬ T 2 = 99) : msz T n f < loz T n r ↔ nI (gr T n (lin T n f)) < nI (gr T n r) + T 2 := by
  have h40 := v.2.1
  have b1 := gr_b (T := T) hr
  have b2 := gr_b (T := T) (lin_lt (T := T) hf)
  have hb := bnd_b v.2.2.2.1 h2
  have e1 : (nI (gr T n r)).toInt = (gr T n r : Int) := nI_toInt (by omega)
  have e2 : (nI (gr T n (lin T n f))).toInt = (gr T n (lin T n f) : Int) := nI_toInt (by omega)
  rw [fa_lt, fb_addI (by omega) (by omega), e1, e2, gr_lin hf]
  unfold loz
  rw [if_neg h2, if_neg (fun z => h z.1), msz_gr h0 h, msz_gr h0 h]
  rfl
theorem gT {T : Nat → Int32} {n r f : Nat} (v : VT T n) (hr : r < n) (hf : f < n) (h0 : ¬ T 1 = 0) (h : ¬ T 1 = 1) (h2 : ¬ T 3 = 99) : hiz T n r < msz T n f ↔ nI (gr T n r) + T 3 < nI (gr T n (lin T n f)) := by
  have h40 := v.2.1
  have b1 := gr_b (T := T) hr
  have b2 := gr_b (T := T) (lin_lt (T := T) hf)
  have hb := bnd_b v.2.2.2.2.1 h2
  have e1 : (nI (gr T n r)).toInt = (gr T n r : Int) := nI_toInt (by omega)
  have e2 : (nI (gr T n (lin T n f))).toInt = (gr T n (lin T n f) : Int) := nI_toInt (by omega)
  rw [fa_lt, fb_addI (by omega) (by omega), e1, e2, gr_lin hf]
  unfold hiz
  rw [if_neg h2, if_neg (fun z => h z.1), msz_gr h0 h, msz_gr h0 h]
  rfl
def K16 (D E : Nat → Nat → Int32) : Prop := (∀ x, x ≠ 16 → x ≠ 17 → E 124 x = D 124 x) ∧ ∀ c, c ≠ 124 → E c = D c
theorem K16.rf (D : Nat → Nat → Int32) : K16 D D := ⟨fun _ _ _ => rfl, fun _ _ => rfl⟩
theorem K16.up {D E : Nat → Nat → Int32} {x : Nat} {y : Int32} (h : K16 D E) (hx : x = 16 ∨ x = 17) : K16 D (up E 124 x y) :=
  ⟨fun z h1 h2 => by rw [up_s, pk_un (by omega)]; exact h.1 z h1 h2, fun c hc => by rw [up_n _ _ _ hc]; exact h.2 c hc⟩
set_option maxHeartbeats 4000000 in
set_option maxRecDepth 100000 in
theorem m_byPlaces (a : Nat) (ha : shL[a]? = some (.inl (0, 126))) (D : Nat → Nat → Int32) (J : Nat → Nat → Int64) (T : Nat → Int32) (hM : MT D a T) (n : Nat) (v : VT T n) (ha2 : 124 < a ∧ a < 131) (hL : LaidM D T n) (r : Nat) (hr : r < n) (h : T 1 = 0) : FD yX7_byPlaces cX7_byPlaces 3 none 1 [.ref 124, .ref a, .int (nI r)] D J (fun res D' J' => res = none ∧ J' = J ∧ K16 D D' ∧ FF T n r (D' 124 16) ∧ TT T n r (D' 124 17)) := by
  refine FD.of (by decide) rfl (Nat.le_of_ble_eq_true rfl) (fun Post hPost => ?_)
  show FV _ _ _ _ _ _ _ _ _ _ _ _ [_, _, _] [] _
  have h40 := v.2.1
  have hl := part_le (T := T) (n := n) (r := r)
  have hp := pos_part (T := T) hr
  refine fv_aload_n (q := 1) dX7_byPlaces_0 rfl rfl ?_
  refine fv_aload_n (q := 2) dX7_byPlaces_1 rfl rfl ?_
  refine fv_iconst (v := 2) (q := 3) dX7_byPlaces_2 (by decide) rfl ?_
  refine fl_iald (q := 4) 2 dX7_byPlaces_3 ha (by decide) rfl (by decide) rfl ?_
  refine fv_top (y := T 2) (hM 2 (by decide)) ?_
  refine fv_bipush (v := 99) (q := 6) dX7_byPlaces_4 (by decide) rfl ?_
  refine fv_icmp_ne (q := 9) 18 dX7_byPlaces_6 (by decide) rfl (fun c6 => ?_) (fun c6 => ?_)
  · refine fv_aload_n (q := 19) dX7_byPlaces_18 rfl rfl ?_
    refine fl_getR (q := 22) dX7_byPlaces_19 fX7_35 sh124 rfl rfl ?_
    refine fv_iload_n (q := 23) dX7_byPlaces_22 rfl rfl ?_
    refine fl_iald (q := 24) _ dX7_byPlaces_23 sh133 (by decide) rfl (by omega) rfl ?_
    refine fv_top (y := nI (pf T n r)) (hL.2.2.1 r hr) ?_
    refine fv_aload_n (q := 25) dX7_byPlaces_24 rfl rfl ?_
    refine fl_getR (q := 28) dX7_byPlaces_25 fX7_32 sh124 rfl rfl ?_
    refine fv_iload_n (q := 29) dX7_byPlaces_28 rfl rfl ?_
    refine fl_iald (q := 30) _ dX7_byPlaces_29 sh132 (by decide) rfl (by omega) rfl ?_
    refine fv_top (y := nI (pos T n r)) (hL.2.1 r hr) ?_
    refine fv_aload_n (q := 31) dX7_byPlaces_30 rfl rfl ?_
    refine fv_iconst (v := 2) (q := 32) dX7_byPlaces_31 (by decide) rfl ?_
    refine fl_iald (q := 33) 2 dX7_byPlaces_32 ha (by decide) rfl (by decide) rfl ?_
    refine fv_top (y := T 2) (hM 2 (by decide)) ?_
    refine fv_iadd (q := 34) dX7_byPlaces_33 rfl ?_
    refine fl_callSi (As := [_, _]) (q := 37) dX7_byPlaces_34 gX7_80 rfl rfl (Nat.le_of_ble_eq_true rfl) rfl (by decide) (m_moreI _ J _ _) ?_
    refine fl_putI (q := 40) dX7_byPlaces_37 fX7_83 sh124 rfl rfl rfl rfl ?_
    refine fv_aload_n (q := 41) dX7_byPlaces_40 rfl rfl ?_
    refine fv_aload_n (q := 42) dX7_byPlaces_41 rfl rfl ?_
    refine fv_iconst (v := 3) (q := 43) dX7_byPlaces_42 (by decide) rfl ?_
    refine fl_iald (q := 44) 3 dX7_byPlaces_43 ha (by decide) rfl (by decide) rfl ?_
    refine fv_top (y := T 3) (by rw [up_n _ _ _ (by omega)]; exact hM 3 (by decide)) ?_
    refine fv_bipush (v := 99) (q := 46) dX7_byPlaces_44 (by decide) rfl ?_
    refine fv_icmp_ne (q := 49) 65 dX7_byPlaces_46 (by decide) rfl (fun c46 => ?_) (fun c46 => ?_)
    · refine fv_aload_n (q := 66) dX7_byPlaces_65 rfl rfl ?_
      refine fl_getR (q := 69) dX7_byPlaces_66 fX7_35 sh124 rfl rfl ?_
      refine fv_iload_n (q := 70) dX7_byPlaces_69 rfl rfl ?_
      refine fl_iald (q := 71) _ dX7_byPlaces_70 sh133 (by decide) rfl (by omega) rfl ?_
      refine fv_top (y := nI (pf T n r)) (hL.2.2.1 r hr) ?_
      refine fv_aload_n (q := 72) dX7_byPlaces_71 rfl rfl ?_
      refine fl_getR (q := 75) dX7_byPlaces_72 fX7_38 sh124 rfl rfl ?_
      refine fv_iload_n (q := 76) dX7_byPlaces_75 rfl rfl ?_
      refine fl_iald (q := 77) _ dX7_byPlaces_76 sh134 (by decide) rfl (by omega) rfl ?_
      refine fv_top (y := nI (pm T n r)) (hL.2.2.2.1 r hr) ?_
      refine fv_iadd (q := 78) dX7_byPlaces_77 rfl ?_
      refine fv_top (nI_add _ _) ?_
      refine fv_aload_n (q := 79) dX7_byPlaces_78 rfl rfl ?_
      refine fl_getR (q := 82) dX7_byPlaces_79 fX7_32 sh124 rfl rfl ?_
      refine fv_iload_n (q := 83) dX7_byPlaces_82 rfl rfl ?_
      refine fl_iald (q := 84) _ dX7_byPlaces_83 sh132 (by decide) rfl (by omega) rfl ?_
      refine fv_top (y := nI (pos T n r)) (hL.2.1 r hr) ?_
      refine fv_aload_n (q := 85) dX7_byPlaces_84 rfl rfl ?_
      refine fv_iconst (v := 3) (q := 86) dX7_byPlaces_85 (by decide) rfl ?_
      refine fl_iald (q := 87) 3 dX7_byPlaces_86 ha (by decide) rfl (by decide) rfl ?_
      refine fv_top (y := T 3) (by rw [up_n _ _ _ (by omega)]; exact hM 3 (by decide)) ?_
      refine fv_iadd (q := 88) dX7_byPlaces_87 rfl ?_
      refine fv_iconst (v := 1) (q := 89) dX7_byPlaces_88 (by decide) rfl ?_
      refine fv_iadd (q := 90) dX7_byPlaces_89 rfl ?_
      refine fl_callSi (As := [_, _]) (q := 93) dX7_byPlaces_90 gX7_76 rfl rfl (Nat.le_of_ble_eq_true rfl) rfl (by decide) (m_lessI _ J _ _) ?_
      refine fl_putI (q := 96) dX7_byPlaces_93 fX7_87 sh124 rfl rfl rfl rfl ?_
      refine fv_vret dX7_byPlaces_96 rfl rfl (Nat.le_refl _) ?_
      exact hPost _ _ _ ⟨rfl, rfl, ((K16.rf D).up (Or.inl rfl)).up (Or.inr rfl), (by rw [up_s, pk_un (by decide), up_s, pk_us]; exact FF_pl v hr h c6), (by rw [up_s, pk_us]; exact TT_pl v hr h c46)⟩
    · refine fv_aload_n (q := 50) dX7_byPlaces_49 rfl rfl ?_
      refine fl_getR (q := 53) dX7_byPlaces_50 fX7_35 sh124 rfl rfl ?_
      refine fv_iload_n (q := 54) dX7_byPlaces_53 rfl rfl ?_
      refine fl_iald (q := 55) _ dX7_byPlaces_54 sh133 (by decide) rfl (by omega) rfl ?_
      refine fv_top (y := nI (pf T n r)) (hL.2.2.1 r hr) ?_
      refine fv_aload_n (q := 56) dX7_byPlaces_55 rfl rfl ?_
      refine fl_getR (q := 59) dX7_byPlaces_56 fX7_38 sh124 rfl rfl ?_
      refine fv_iload_n (q := 60) dX7_byPlaces_59 rfl rfl ?_
      refine fl_iald (q := 61) _ dX7_byPlaces_60 sh134 (by decide) rfl (by omega) rfl ?_
      refine fv_top (y := nI (pm T n r)) (hL.2.2.2.1 r hr) ?_
      refine fv_iadd (q := 62) dX7_byPlaces_61 rfl ?_
      refine fv_top (nI_add _ _) ?_
      refine fv_goto 93 dX7_byPlaces_62 (by decide) ?_
      refine fl_putI (q := 96) dX7_byPlaces_93 fX7_87 sh124 rfl rfl rfl rfl ?_
      refine fv_vret dX7_byPlaces_96 rfl rfl (Nat.le_refl _) ?_
      exact hPost _ _ _ ⟨rfl, rfl, ((K16.rf D).up (Or.inl rfl)).up (Or.inr rfl), (by rw [up_s, pk_un (by decide), up_s, pk_us]; exact FF_pl v hr h c6), (by rw [up_s, pk_us]; exact TT_open v hr c46)⟩
  · refine fv_aload_n (q := 10) dX7_byPlaces_9 rfl rfl ?_
    refine fl_getR (q := 13) dX7_byPlaces_10 fX7_35 sh124 rfl rfl ?_
    refine fv_iload_n (q := 14) dX7_byPlaces_13 rfl rfl ?_
    refine fl_iald (q := 15) _ dX7_byPlaces_14 sh133 (by decide) rfl (by omega) rfl ?_
    refine fv_top (y := nI (pf T n r)) (hL.2.2.1 r hr) ?_
    refine fv_goto 37 dX7_byPlaces_15 (by decide) ?_
    refine fl_putI (q := 40) dX7_byPlaces_37 fX7_83 sh124 rfl rfl rfl rfl ?_
    refine fv_aload_n (q := 41) dX7_byPlaces_40 rfl rfl ?_
    refine fv_aload_n (q := 42) dX7_byPlaces_41 rfl rfl ?_
    refine fv_iconst (v := 3) (q := 43) dX7_byPlaces_42 (by decide) rfl ?_
    refine fl_iald (q := 44) 3 dX7_byPlaces_43 ha (by decide) rfl (by decide) rfl ?_
    refine fv_top (y := T 3) (by rw [up_n _ _ _ (by omega)]; exact hM 3 (by decide)) ?_
    refine fv_bipush (v := 99) (q := 46) dX7_byPlaces_44 (by decide) rfl ?_
    refine fv_icmp_ne (q := 49) 65 dX7_byPlaces_46 (by decide) rfl (fun c46 => ?_) (fun c46 => ?_)
    · refine fv_aload_n (q := 66) dX7_byPlaces_65 rfl rfl ?_
      refine fl_getR (q := 69) dX7_byPlaces_66 fX7_35 sh124 rfl rfl ?_
      refine fv_iload_n (q := 70) dX7_byPlaces_69 rfl rfl ?_
      refine fl_iald (q := 71) _ dX7_byPlaces_70 sh133 (by decide) rfl (by omega) rfl ?_
      refine fv_top (y := nI (pf T n r)) (hL.2.2.1 r hr) ?_
      refine fv_aload_n (q := 72) dX7_byPlaces_71 rfl rfl ?_
      refine fl_getR (q := 75) dX7_byPlaces_72 fX7_38 sh124 rfl rfl ?_
      refine fv_iload_n (q := 76) dX7_byPlaces_75 rfl rfl ?_
      refine fl_iald (q := 77) _ dX7_byPlaces_76 sh134 (by decide) rfl (by omega) rfl ?_
      refine fv_top (y := nI (pm T n r)) (hL.2.2.2.1 r hr) ?_
      refine fv_iadd (q := 78) dX7_byPlaces_77 rfl ?_
      refine fv_top (nI_add _ _) ?_
      refine fv_aload_n (q := 79) dX7_byPlaces_78 rfl rfl ?_
      refine fl_getR (q := 82) dX7_byPlaces_79 fX7_32 sh124 rfl rfl ?_
      refine fv_iload_n (q := 83) dX7_byPlaces_82 rfl rfl ?_
      refine fl_iald (q := 84) _ dX7_byPlaces_83 sh132 (by decide) rfl (by omega) rfl ?_
      refine fv_top (y := nI (pos T n r)) (hL.2.1 r hr) ?_
      refine fv_aload_n (q := 85) dX7_byPlaces_84 rfl rfl ?_
      refine fv_iconst (v := 3) (q := 86) dX7_byPlaces_85 (by decide) rfl ?_
      refine fl_iald (q := 87) 3 dX7_byPlaces_86 ha (by decide) rfl (by decide) rfl ?_
      refine fv_top (y := T 3) (by rw [up_n _ _ _ (by omega)]; exact hM 3 (by decide)) ?_
      refine fv_iadd (q := 88) dX7_byPlaces_87 rfl ?_
      refine fv_iconst (v := 1) (q := 89) dX7_byPlaces_88 (by decide) rfl ?_
      refine fv_iadd (q := 90) dX7_byPlaces_89 rfl ?_
      refine fl_callSi (As := [_, _]) (q := 93) dX7_byPlaces_90 gX7_76 rfl rfl (Nat.le_of_ble_eq_true rfl) rfl (by decide) (m_lessI _ J _ _) ?_
      refine fl_putI (q := 96) dX7_byPlaces_93 fX7_87 sh124 rfl rfl rfl rfl ?_
      refine fv_vret dX7_byPlaces_96 rfl rfl (Nat.le_refl _) ?_
      exact hPost _ _ _ ⟨rfl, rfl, ((K16.rf D).up (Or.inl rfl)).up (Or.inr rfl), (by rw [up_s, pk_un (by decide), up_s, pk_us]; exact FF_open v hr c6), (by rw [up_s, pk_us]; exact TT_pl v hr h c46)⟩
    · refine fv_aload_n (q := 50) dX7_byPlaces_49 rfl rfl ?_
      refine fl_getR (q := 53) dX7_byPlaces_50 fX7_35 sh124 rfl rfl ?_
      refine fv_iload_n (q := 54) dX7_byPlaces_53 rfl rfl ?_
      refine fl_iald (q := 55) _ dX7_byPlaces_54 sh133 (by decide) rfl (by omega) rfl ?_
      refine fv_top (y := nI (pf T n r)) (hL.2.2.1 r hr) ?_
      refine fv_aload_n (q := 56) dX7_byPlaces_55 rfl rfl ?_
      refine fl_getR (q := 59) dX7_byPlaces_56 fX7_38 sh124 rfl rfl ?_
      refine fv_iload_n (q := 60) dX7_byPlaces_59 rfl rfl ?_
      refine fl_iald (q := 61) _ dX7_byPlaces_60 sh134 (by decide) rfl (by omega) rfl ?_
      refine fv_top (y := nI (pm T n r)) (hL.2.2.2.1 r hr) ?_
      refine fv_iadd (q := 62) dX7_byPlaces_61 rfl ?_
      refine fv_top (nI_add _ _) ?_
      refine fv_goto 93 dX7_byPlaces_62 (by decide) ?_
      refine fl_putI (q := 96) dX7_byPlaces_93 fX7_87 sh124 rfl rfl rfl rfl ?_
      refine fv_vret dX7_byPlaces_96 rfl rfl (Nat.le_refl _) ?_
      exact hPost _ _ _ ⟨rfl, rfl, ((K16.rf D).up (Or.inl rfl)).up (Or.inr rfl), (by rw [up_s, pk_un (by decide), up_s, pk_us]; exact FF_open v hr c6), (by rw [up_s, pk_us]; exact TT_open v hr c46)⟩
set_option maxHeartbeats 4000000 in
set_option maxRecDepth 100000 in
theorem m_byKeys (a : Nat) (ha : shL[a]? = some (.inl (0, 126))) (D : Nat → Nat → Int32) (J : Nat → Nat → Int64) (T : Nat → Int32) (hM : MT D a T) (n : Nat) (v : VT T n) (ha2 : 124 < a ∧ a < 131) (hL : LaidM D T n) (r : Nat) (hr : r < n) (h : T 1 = 1) : FD yX7_byKeys cX7_byKeys 6 none 2 [.ref 124, .ref a, .int (nI r)] D J (fun res D' J' => res = none ∧ J' = J ∧ K16 D D' ∧ FF T n r (D' 124 16) ∧ TT T n r (D' 124 17)) := by
  refine FD.of (by decide) rfl (Nat.le_of_ble_eq_true rfl) (fun Post hPost => ?_)
  show FV _ _ _ _ _ _ _ _ _ _ _ _ [_, _, _, _, _, _] [] _
  have h40 := v.2.1
  have hl := part_le (T := T) (n := n) (r := r)
  have hp := pos_part (T := T) hr
  have main : ¬ ke T r = 1000000 → ∀ E : Nat → Nat → Int32, K16 D E → E 124 16 = nI (pf T n r) → E 124 17 = nI (pf T n r + pm T n r) → FV cX7_byKeys 6 none yX7_byKeys.cls yX7_byKeys.name 2 0 0 Post 0 0 101 [some (.ref 124), some (.ref a), some (.int (nI r)), some (.int (nI (pf T n r))), some (.int (nI (pf T n r + pm T n r))), some (.int (ke T r))] [] (lay E J) := by
    intro hm
    have loopT : ¬ T 3 = 99 → ∀ t, t ≤ pf T n r + pm T n r → pf T n r ≤ t → (∀ k, t ≤ k → k < pf T n r + pm T n r → hiz T n r < msz T n k) → ∀ E : Nat → Nat → Int32, K16 D E → FF T n r (E 124 16) → E 124 17 = nI t → FV cX7_byKeys 6 none yX7_byKeys.cls yX7_byKeys.name 2 0 0 Post 0 0 188 [some (.ref 124), some (.ref a), some (.int (nI r)), some (.int (nI (pf T n r))), some (.int (nI (pf T n r + pm T n r))), some (.int (ke T r))] [] (lay E J) := by
      intro h3
      refine dn_ind (fun t ih => ?_)
      intro ht hpt h2 E hK hFF hE17
      refine fv_aload_n (q := 189) dX7_byKeys_188 rfl rfl ?_
      refine fl_getI (q := 192) dX7_byKeys_189 fX7_87 sh124 rfl rfl ?_
      refine fv_top (y := nI t) hE17 ?_
      refine fv_iload_n (q := 193) dX7_byKeys_192 rfl rfl ?_
      refine fv_icmp_le (q := 196) 264 dX7_byKeys_193 (by decide) rfl (fun c193 => ?_) (fun c193 => ?_)
      · rw [nI_leI (by omega) (by omega)] at c193
        refine fv_vret dX7_byKeys_264 rfl rfl (Nat.le_refl _) ?_
        exact hPost _ _ _ ⟨rfl, rfl, hK, hFF, by rw [hE17]; exact TT_n v hr ht h2 (fun g => by omega)⟩
      · rw [nI_leI (by omega) (by omega)] at c193
        have hME : MT E a T := by unfold MT; rw [hK.2 a (by omega)]; exact hM
        have hLE : LaidM E T n := hL.of (fun c h1 h2 => hK.2 c (by omega))
        refine fv_aload_n (q := 197) dX7_byKeys_196 rfl rfl ?_
        refine fv_bipush (v := 46) (q := 199) dX7_byKeys_197 (by decide) rfl ?_
        refine fv_aload_n (q := 200) dX7_byKeys_199 rfl rfl ?_
        refine fl_getR (q := 203) dX7_byKeys_200 fX7_29 sh124 rfl rfl ?_
        refine fv_aload_n (q := 204) dX7_byKeys_203 rfl rfl ?_
        refine fl_getI (q := 207) dX7_byKeys_204 fX7_87 sh124 rfl rfl ?_
        refine fv_top (y := nI t) hE17 ?_
        refine fv_iconst (v := 1) (q := 208) dX7_byKeys_207 (by decide) rfl ?_
        refine fv_isub (q := 209) dX7_byKeys_208 rfl ?_
        refine fv_top (y := nI (t - 1)) (nI_mm (by omega)) ?_
        refine fl_iald (q := 210) (t - 1) dX7_byKeys_209 sh131 (by decide) rfl (by omega) rfl ?_
        refine fv_top (y := nI (lin T n (t - 1))) (hLE.1 (t - 1) (by omega)) ?_
        refine fv_iadd (q := 211) dX7_byKeys_210 rfl ?_
        refine fl_iald (q := 212) (46 + lin T n (t - 1)) dX7_byKeys_211 ha (by decide) (nI_add 46 (lin T n (t - 1))) (by have := lin_lt (T := T) (n := n) (k := (t - 1)) (by omega); omega) rfl ?_
        refine fv_top (y := ke T (lin T n (t - 1))) (hME _ (by have := lin_lt (T := T) (n := n) (k := (t - 1)) (by omega); omega)) ?_
        refine fv_ldc (q := 214) dX7_byKeys_212 kX7_66 rfl ?_
        refine fv_icmp_ne (q := 217) 226 dX7_byKeys_214 (by decide) rfl (fun c214 => ?_) (fun c214 => ?_)
        · refine fv_aload_n (q := 227) dX7_byKeys_226 rfl rfl ?_
          refine fv_bipush (v := 46) (q := 229) dX7_byKeys_227 (by decide) rfl ?_
          refine fv_aload_n (q := 230) dX7_byKeys_229 rfl rfl ?_
          refine fl_getR (q := 233) dX7_byKeys_230 fX7_29 sh124 rfl rfl ?_
          refine fv_aload_n (q := 234) dX7_byKeys_233 rfl rfl ?_
          refine fl_getI (q := 237) dX7_byKeys_234 fX7_87 sh124 rfl rfl ?_
          refine fv_top (y := nI t) hE17 ?_
          refine fv_iconst (v := 1) (q := 238) dX7_byKeys_237 (by decide) rfl ?_
          refine fv_isub (q := 239) dX7_byKeys_238 rfl ?_
          refine fv_top (y := nI (t - 1)) (nI_mm (by omega)) ?_
          refine fl_iald (q := 240) (t - 1) dX7_byKeys_239 sh131 (by decide) rfl (by omega) rfl ?_
          refine fv_top (y := nI (lin T n (t - 1))) (hLE.1 (t - 1) (by omega)) ?_
          refine fv_iadd (q := 241) dX7_byKeys_240 rfl ?_
          refine fl_iald (q := 242) (46 + lin T n (t - 1)) dX7_byKeys_241 ha (by decide) (nI_add 46 (lin T n (t - 1))) (by have := lin_lt (T := T) (n := n) (k := (t - 1)) (by omega); omega) rfl ?_
          refine fv_top (y := ke T (lin T n (t - 1))) (hME _ (by have := lin_lt (T := T) (n := n) (k := (t - 1)) (by omega); omega)) ?_
          refine fv_iload (q := 244) dX7_byKeys_242 rfl rfl ?_
          refine fv_aload_n (q := 245) dX7_byKeys_244 rfl rfl ?_
          refine fv_iconst (v := 3) (q := 246) dX7_byKeys_245 (by decide) rfl ?_
          refine fl_iald (q := 247) 3 dX7_byKeys_246 ha (by decide) rfl (by decide) rfl ?_
          refine fv_top (y := T 3) (hME 3 (by decide)) ?_
          refine fv_iadd (q := 248) dX7_byKeys_247 rfl ?_
          refine fv_icmp_le (q := 251) 264 dX7_byKeys_248 (by decide) rfl (fun c248 => ?_) (fun c248 => ?_)
          · refine fv_vret dX7_byKeys_264 rfl rfl (Nat.le_refl _) ?_
            exact hPost _ _ _ ⟨rfl, rfl, hK, hFF, by rw [hE17]; exact TT_n v hr ht h2 (fun g => Int.not_lt.mp (mt (kT v hr (by omega) h hm h3).mp (by rintro (⟨x, y⟩ | ⟨x, y⟩); exact c214 x; rw [fa_lt] at y; rw [fa_le] at c248; omega)))⟩
          · refine fv_aload_n (q := 252) dX7_byKeys_251 rfl rfl ?_
            refine fv_dup (q := 253) dX7_byKeys_252 rfl rfl ?_
            refine fl_getI (q := 256) dX7_byKeys_253 fX7_87 sh124 rfl rfl ?_
            refine fv_top (y := nI t) hE17 ?_
            refine fv_iconst (v := 1) (q := 257) dX7_byKeys_256 (by decide) rfl ?_
            refine fv_isub (q := 258) dX7_byKeys_257 rfl ?_
            refine fv_top (y := nI (t - 1)) (nI_mm (by omega)) ?_
            refine fl_putI (q := 261) dX7_byKeys_258 fX7_87 sh124 rfl rfl rfl rfl ?_
            refine fv_goto 188 dX7_byKeys_261 (by decide) ?_
            have hs := (kT v hr (f := t - 1) (by omega) h hm h3).mpr (Or.inr ⟨c214, (by rw [fa_le] at c248; rw [fa_lt]; omega)⟩)
            refine ih (by omega) (by omega) (by omega) (fun k g1 g2 => ?_) _ (hK.up (Or.inr rfl)) (by rw [up_s, pk_un (by decide)]; exact hFF) (by rw [up_s, pk_us])
            by_cases e9 : k = t - 1
            · rw [e9]; exact hs
            · exact h2 k (by omega) g2
        · refine fv_aload_n (q := 218) dX7_byKeys_217 rfl rfl ?_
          refine fv_iconst (v := 5) (q := 219) dX7_byKeys_218 (by decide) rfl ?_
          refine fl_iald (q := 220) 5 dX7_byKeys_219 ha (by decide) rfl (by decide) rfl ?_
          refine fv_top (y := T 5) (hME 5 (by decide)) ?_
          refine fv_if_ne (q := 223) 264 dX7_byKeys_220 (by decide) rfl (fun c220 => ?_) (fun c220 => ?_)
          · refine fv_vret dX7_byKeys_264 rfl rfl (Nat.le_refl _) ?_
            exact hPost _ _ _ ⟨rfl, rfl, hK, hFF, by rw [hE17]; exact TT_n v hr ht h2 (fun g => Int.not_lt.mp (mt (kT v hr (by omega) h hm h3).mp (by rintro (⟨x, y⟩ | ⟨x, y⟩); exact c220 y; exact x c214)))⟩
          · refine fv_goto 251 dX7_byKeys_223 (by decide) ?_
            refine fv_aload_n (q := 252) dX7_byKeys_251 rfl rfl ?_
            refine fv_dup (q := 253) dX7_byKeys_252 rfl rfl ?_
            refine fl_getI (q := 256) dX7_byKeys_253 fX7_87 sh124 rfl rfl ?_
            refine fv_top (y := nI t) hE17 ?_
            refine fv_iconst (v := 1) (q := 257) dX7_byKeys_256 (by decide) rfl ?_
            refine fv_isub (q := 258) dX7_byKeys_257 rfl ?_
            refine fv_top (y := nI (t - 1)) (nI_mm (by omega)) ?_
            refine fl_putI (q := 261) dX7_byKeys_258 fX7_87 sh124 rfl rfl rfl rfl ?_
            refine fv_goto 188 dX7_byKeys_261 (by decide) ?_
            have hs := (kT v hr (f := t - 1) (by omega) h hm h3).mpr (Or.inl ⟨c214, c220⟩)
            refine ih (by omega) (by omega) (by omega) (fun k g1 g2 => ?_) _ (hK.up (Or.inr rfl)) (by rw [up_s, pk_un (by decide)]; exact hFF) (by rw [up_s, pk_us])
            by_cases e9 : k = t - 1
            · rw [e9]; exact hs
            · exact h2 k (by omega) g2
    have tail : ∀ E : Nat → Nat → Int32, K16 D E → FF T n r (E 124 16) → E 124 17 = nI (pf T n r + pm T n r) → FV cX7_byKeys 6 none yX7_byKeys.cls yX7_byKeys.name 2 0 0 Post 0 0 180 [some (.ref 124), some (.ref a), some (.int (nI r)), some (.int (nI (pf T n r))), some (.int (nI (pf T n r + pm T n r))), some (.int (ke T r))] [] (lay E J) := by
      intro E hK hFF hE17
      have hME : MT E a T := by unfold MT; rw [hK.2 a (by omega)]; exact hM
      refine fv_aload_n (q := 181) dX7_byKeys_180 rfl rfl ?_
      refine fv_iconst (v := 3) (q := 182) dX7_byKeys_181 (by decide) rfl ?_
      refine fl_iald (q := 183) 3 dX7_byKeys_182 ha (by decide) rfl (by decide) rfl ?_
      refine fv_top (y := T 3) (hME 3 (by decide)) ?_
      refine fv_bipush (v := 99) (q := 185) dX7_byKeys_183 (by decide) rfl ?_
      refine fv_icmp_eq (q := 188) 264 dX7_byKeys_185 (by decide) rfl (fun c185 => ?_) (fun c185 => ?_)
      · refine fv_vret dX7_byKeys_264 rfl rfl (Nat.le_refl _) ?_
        exact hPost _ _ _ ⟨rfl, rfl, hK, hFF, by rw [hE17]; exact TT_open v hr c185⟩
      · exact loopT c185 _ (Nat.le_refl _) (by omega) (fun k g1 g2 => absurd g2 (by omega)) E hK hFF hE17
    have loopF : ¬ T 2 = 99 → ∀ f, f ≤ pf T n r + pm T n r → pf T n r ≤ f → (∀ k, pf T n r ≤ k → k < f → msz T n k < loz T n r) → ∀ E : Nat → Nat → Int32, K16 D E → E 124 16 = nI f → E 124 17 = nI (pf T n r + pm T n r) → FV cX7_byKeys 6 none yX7_byKeys.cls yX7_byKeys.name 2 0 0 Post 0 0 109 [some (.ref 124), some (.ref a), some (.int (nI r)), some (.int (nI (pf T n r))), some (.int (nI (pf T n r + pm T n r))), some (.int (ke T r))] [] (lay E J) := by
      intro h3
      refine up_ind (fun f hf ih => ?_)
      intro hpf h2 E hK hE16 hE17
      refine fv_aload_n (q := 110) dX7_byKeys_109 rfl rfl ?_
      refine fl_getI (q := 113) dX7_byKeys_110 fX7_83 sh124 rfl rfl ?_
      refine fv_top (y := nI f) hE16 ?_
      refine fv_iload (q := 115) dX7_byKeys_113 rfl rfl ?_
      refine fv_icmp_ge (q := 118) 180 dX7_byKeys_115 (by decide) rfl (fun c115 => ?_) (fun c115 => ?_)
      · rw [nI_leI (by omega) (by omega)] at c115
        exact tail E hK (by rw [hE16]; exact FF_n v hr hpf (by omega) h2 (fun g => absurd g (by omega))) hE17
      · rw [nI_leI (by omega) (by omega)] at c115
        have hME : MT E a T := by unfold MT; rw [hK.2 a (by omega)]; exact hM
        have hLE : LaidM E T n := hL.of (fun c h1 h2 => hK.2 c (by omega))
        refine fv_aload_n (q := 119) dX7_byKeys_118 rfl rfl ?_
        refine fv_bipush (v := 46) (q := 121) dX7_byKeys_119 (by decide) rfl ?_
        refine fv_aload_n (q := 122) dX7_byKeys_121 rfl rfl ?_
        refine fl_getR (q := 125) dX7_byKeys_122 fX7_29 sh124 rfl rfl ?_
        refine fv_aload_n (q := 126) dX7_byKeys_125 rfl rfl ?_
        refine fl_getI (q := 129) dX7_byKeys_126 fX7_83 sh124 rfl rfl ?_
        refine fv_top (y := nI f) hE16 ?_
        refine fl_iald (q := 130) f dX7_byKeys_129 sh131 (by decide) rfl (by omega) rfl ?_
        refine fv_top (y := nI (lin T n f)) (hLE.1 f (by omega)) ?_
        refine fv_iadd (q := 131) dX7_byKeys_130 rfl ?_
        refine fl_iald (q := 132) (46 + lin T n f) dX7_byKeys_131 ha (by decide) (nI_add 46 (lin T n f)) (by have := lin_lt (T := T) (n := n) (k := f) (by omega); omega) rfl ?_
        refine fv_top (y := ke T (lin T n f)) (hME _ (by have := lin_lt (T := T) (n := n) (k := f) (by omega); omega)) ?_
        refine fv_ldc (q := 134) dX7_byKeys_132 kX7_66 rfl ?_
        refine fv_icmp_ne (q := 137) 144 dX7_byKeys_134 (by decide) rfl (fun c134 => ?_) (fun c134 => ?_)
        · refine fv_aload_n (q := 145) dX7_byKeys_144 rfl rfl ?_
          refine fv_bipush (v := 46) (q := 147) dX7_byKeys_145 (by decide) rfl ?_
          refine fv_aload_n (q := 148) dX7_byKeys_147 rfl rfl ?_
          refine fl_getR (q := 151) dX7_byKeys_148 fX7_29 sh124 rfl rfl ?_
          refine fv_aload_n (q := 152) dX7_byKeys_151 rfl rfl ?_
          refine fl_getI (q := 155) dX7_byKeys_152 fX7_83 sh124 rfl rfl ?_
          refine fv_top (y := nI f) hE16 ?_
          refine fl_iald (q := 156) f dX7_byKeys_155 sh131 (by decide) rfl (by omega) rfl ?_
          refine fv_top (y := nI (lin T n f)) (hLE.1 f (by omega)) ?_
          refine fv_iadd (q := 157) dX7_byKeys_156 rfl ?_
          refine fl_iald (q := 158) (46 + lin T n f) dX7_byKeys_157 ha (by decide) (nI_add 46 (lin T n f)) (by have := lin_lt (T := T) (n := n) (k := f) (by omega); omega) rfl ?_
          refine fv_top (y := ke T (lin T n f)) (hME _ (by have := lin_lt (T := T) (n := n) (k := f) (by omega); omega)) ?_
          refine fv_iload (q := 160) dX7_byKeys_158 rfl rfl ?_
          refine fv_aload_n (q := 161) dX7_byKeys_160 rfl rfl ?_
          refine fv_iconst (v := 2) (q := 162) dX7_byKeys_161 (by decide) rfl ?_
          refine fl_iald (q := 163) 2 dX7_byKeys_162 ha (by decide) rfl (by decide) rfl ?_
          refine fv_top (y := T 2) (hME 2 (by decide)) ?_
          refine fv_iadd (q := 164) dX7_byKeys_163 rfl ?_
          refine fv_icmp_ge (q := 167) 180 dX7_byKeys_164 (by decide) rfl (fun c164 => ?_) (fun c164 => ?_)
          · exact tail E hK (by rw [hE16]; exact FF_n v hr hpf (by omega) h2 (fun g => Int.not_lt.mp (mt (kF v hr (by omega) h hm h3).mp (by rintro (⟨x, y⟩ | y); exact c134 x; rw [fa_lt] at y; rw [fa_le] at c164; omega)))) hE17
          · refine fv_aload_n (q := 168) dX7_byKeys_167 rfl rfl ?_
            refine fv_dup (q := 169) dX7_byKeys_168 rfl rfl ?_
            refine fl_getI (q := 172) dX7_byKeys_169 fX7_83 sh124 rfl rfl ?_
            refine fv_top (y := nI f) hE16 ?_
            refine fv_iconst (v := 1) (q := 173) dX7_byKeys_172 (by decide) rfl ?_
            refine fv_iadd (q := 174) dX7_byKeys_173 rfl ?_
            refine fv_top (nI_1 _) ?_
            refine fl_putI (q := 177) dX7_byKeys_174 fX7_83 sh124 rfl rfl rfl rfl ?_
            refine fv_goto 109 dX7_byKeys_177 (by decide) ?_
            have hs := (kF v hr (f := f) (by omega) h hm h3).mpr (Or.inr (by rw [fa_le] at c164; rw [fa_lt]; omega))
            refine ih (by omega) (by omega) (fun k g1 g2 => ?_) _ (hK.up (Or.inl rfl)) (by rw [up_s, pk_us]) (by rw [up_s, pk_un (by decide)]; exact hE17)
            by_cases e9 : k = f
            · rw [e9]; exact hs
            · exact h2 k g1 (by omega)
        · refine fv_aload_n (q := 138) dX7_byKeys_137 rfl rfl ?_
          refine fv_iconst (v := 5) (q := 139) dX7_byKeys_138 (by decide) rfl ?_
          refine fl_iald (q := 140) 5 dX7_byKeys_139 ha (by decide) rfl (by decide) rfl ?_
          refine fv_top (y := T 5) (hME 5 (by decide)) ?_
          refine fv_iconst (v := 1) (q := 141) dX7_byKeys_140 (by decide) rfl ?_
          refine fv_icmp_eq (q := 144) 167 dX7_byKeys_141 (by decide) rfl (fun c141 => ?_) (fun c141 => ?_)
          · refine fv_aload_n (q := 168) dX7_byKeys_167 rfl rfl ?_
            refine fv_dup (q := 169) dX7_byKeys_168 rfl rfl ?_
            refine fl_getI (q := 172) dX7_byKeys_169 fX7_83 sh124 rfl rfl ?_
            refine fv_top (y := nI f) hE16 ?_
            refine fv_iconst (v := 1) (q := 173) dX7_byKeys_172 (by decide) rfl ?_
            refine fv_iadd (q := 174) dX7_byKeys_173 rfl ?_
            refine fv_top (nI_1 _) ?_
            refine fl_putI (q := 177) dX7_byKeys_174 fX7_83 sh124 rfl rfl rfl rfl ?_
            refine fv_goto 109 dX7_byKeys_177 (by decide) ?_
            have hs := (kF v hr (f := f) (by omega) h hm h3).mpr (Or.inl ⟨c134, c141⟩)
            refine ih (by omega) (by omega) (fun k g1 g2 => ?_) _ (hK.up (Or.inl rfl)) (by rw [up_s, pk_us]) (by rw [up_s, pk_un (by decide)]; exact hE17)
            by_cases e9 : k = f
            · rw [e9]; exact hs
            · exact h2 k g1 (by omega)
          · refine fv_aload_n (q := 145) dX7_byKeys_144 rfl rfl ?_
            refine fv_bipush (v := 46) (q := 147) dX7_byKeys_145 (by decide) rfl ?_
            refine fv_aload_n (q := 148) dX7_byKeys_147 rfl rfl ?_
            refine fl_getR (q := 151) dX7_byKeys_148 fX7_29 sh124 rfl rfl ?_
            refine fv_aload_n (q := 152) dX7_byKeys_151 rfl rfl ?_
            refine fl_getI (q := 155) dX7_byKeys_152 fX7_83 sh124 rfl rfl ?_
            refine fv_top (y := nI f) hE16 ?_
            refine fl_iald (q := 156) f dX7_byKeys_155 sh131 (by decide) rfl (by omega) rfl ?_
            refine fv_top (y := nI (lin T n f)) (hLE.1 f (by omega)) ?_
            refine fv_iadd (q := 157) dX7_byKeys_156 rfl ?_
            refine fl_iald (q := 158) (46 + lin T n f) dX7_byKeys_157 ha (by decide) (nI_add 46 (lin T n f)) (by have := lin_lt (T := T) (n := n) (k := f) (by omega); omega) rfl ?_
            refine fv_top (y := ke T (lin T n f)) (hME _ (by have := lin_lt (T := T) (n := n) (k := f) (by omega); omega)) ?_
            refine fv_iload (q := 160) dX7_byKeys_158 rfl rfl ?_
            refine fv_aload_n (q := 161) dX7_byKeys_160 rfl rfl ?_
            refine fv_iconst (v := 2) (q := 162) dX7_byKeys_161 (by decide) rfl ?_
            refine fl_iald (q := 163) 2 dX7_byKeys_162 ha (by decide) rfl (by decide) rfl ?_
            refine fv_top (y := T 2) (hME 2 (by decide)) ?_
            refine fv_iadd (q := 164) dX7_byKeys_163 rfl ?_
            refine fv_icmp_ge (q := 167) 180 dX7_byKeys_164 (by decide) rfl (fun c164 => ?_) (fun c164 => ?_)
            · exact tail E hK (by rw [hE16]; exact FF_n v hr hpf (by omega) h2 (fun g => Int.not_lt.mp (mt (kF v hr (by omega) h hm h3).mp (by rintro (⟨x, y⟩ | y); exact c141 y; rw [fa_lt] at y; rw [fa_le] at c164; omega)))) hE17
            · refine fv_aload_n (q := 168) dX7_byKeys_167 rfl rfl ?_
              refine fv_dup (q := 169) dX7_byKeys_168 rfl rfl ?_
              refine fl_getI (q := 172) dX7_byKeys_169 fX7_83 sh124 rfl rfl ?_
              refine fv_top (y := nI f) hE16 ?_
              refine fv_iconst (v := 1) (q := 173) dX7_byKeys_172 (by decide) rfl ?_
              refine fv_iadd (q := 174) dX7_byKeys_173 rfl ?_
              refine fv_top (nI_1 _) ?_
              refine fl_putI (q := 177) dX7_byKeys_174 fX7_83 sh124 rfl rfl rfl rfl ?_
              refine fv_goto 109 dX7_byKeys_177 (by decide) ?_
              have hs := (kF v hr (f := f) (by omega) h hm h3).mpr (Or.inr (by rw [fa_le] at c164; rw [fa_lt]; omega))
              refine ih (by omega) (by omega) (fun k g1 g2 => ?_) _ (hK.up (Or.inl rfl)) (by rw [up_s, pk_us]) (by rw [up_s, pk_un (by decide)]; exact hE17)
              by_cases e9 : k = f
              · rw [e9]; exact hs
              · exact h2 k g1 (by omega)
    intro E hK hE16 hE17
    have hME : MT E a T := by unfold MT; rw [hK.2 a (by omega)]; exact hM
    refine fv_aload_n (q := 102) dX7_byKeys_101 rfl rfl ?_
    refine fv_iconst (v := 2) (q := 103) dX7_byKeys_102 (by decide) rfl ?_
    refine fl_iald (q := 104) 2 dX7_byKeys_103 ha (by decide) rfl (by decide) rfl ?_
    refine fv_top (y := T 2) (hME 2 (by decide)) ?_
    refine fv_bipush (v := 99) (q := 106) dX7_byKeys_104 (by decide) rfl ?_
    refine fv_icmp_eq (q := 109) 180 dX7_byKeys_106 (by decide) rfl (fun c106 => ?_) (fun c106 => ?_)
    · exact tail E hK (by rw [hE16]; exact FF_open v hr c106) hE17
    · exact loopF c106 _ (by omega) (Nat.le_refl _) (fun k g1 g2 => absurd g2 (by omega)) E hK hE16 hE17
  refine fv_aload_n (q := 1) dX7_byKeys_0 rfl rfl ?_
  refine fl_getR (q := 4) dX7_byKeys_1 fX7_35 sh124 rfl rfl ?_
  refine fv_iload_n (q := 5) dX7_byKeys_4 rfl rfl ?_
  refine fl_iald (q := 6) _ dX7_byKeys_5 sh133 (by decide) rfl (by omega) rfl ?_
  refine fv_top (y := nI (pf T n r)) (hL.2.2.1 r hr) ?_
  refine fv_istore_n (i := 3) (q := 7) (l' := [_, _, _, _, _, _]) dX7_byKeys_6 rfl (by decide) rfl rfl rfl ?_
  refine fv_aload_n (q := 8) dX7_byKeys_7 rfl rfl ?_
  refine fl_getR (q := 11) dX7_byKeys_8 fX7_35 sh124 rfl rfl ?_
  refine fv_iload_n (q := 12) dX7_byKeys_11 rfl rfl ?_
  refine fl_iald (q := 13) _ dX7_byKeys_12 sh133 (by decide) rfl (by omega) rfl ?_
  refine fv_top (y := nI (pf T n r)) (hL.2.2.1 r hr) ?_
  refine fv_aload_n (q := 14) dX7_byKeys_13 rfl rfl ?_
  refine fl_getR (q := 17) dX7_byKeys_14 fX7_38 sh124 rfl rfl ?_
  refine fv_iload_n (q := 18) dX7_byKeys_17 rfl rfl ?_
  refine fl_iald (q := 19) _ dX7_byKeys_18 sh134 (by decide) rfl (by omega) rfl ?_
  refine fv_top (y := nI (pm T n r)) (hL.2.2.2.1 r hr) ?_
  refine fv_iadd (q := 20) dX7_byKeys_19 rfl ?_
  refine fv_top (nI_add _ _) ?_
  refine fv_istore (q := 22) (l' := [_, _, _, _, _, _]) dX7_byKeys_20 (by decide) rfl rfl rfl ?_
  refine fv_aload_n (q := 23) dX7_byKeys_22 rfl rfl ?_
  refine fv_bipush (v := 46) (q := 25) dX7_byKeys_23 (by decide) rfl ?_
  refine fv_iload_n (q := 26) dX7_byKeys_25 rfl rfl ?_
  refine fv_iadd (q := 27) dX7_byKeys_26 rfl ?_
  refine fl_iald (q := 28) (46 + r) dX7_byKeys_27 ha (by decide) (nI_add 46 r) (by omega) rfl ?_
  refine fv_top (y := ke T r) (hM _ (by omega)) ?_
  refine fv_istore (q := 30) (l' := [_, _, _, _, _, _]) dX7_byKeys_28 (by decide) rfl rfl rfl ?_
  refine fv_aload_n (q := 31) dX7_byKeys_30 rfl rfl ?_
  refine fv_iload_n (q := 32) dX7_byKeys_31 rfl rfl ?_
  refine fl_putI (q := 35) dX7_byKeys_32 fX7_83 sh124 rfl rfl rfl rfl ?_
  refine fv_aload_n (q := 36) dX7_byKeys_35 rfl rfl ?_
  refine fv_iload (q := 38) dX7_byKeys_36 rfl rfl ?_
  refine fl_putI (q := 41) dX7_byKeys_38 fX7_87 sh124 rfl rfl rfl rfl ?_
  refine fv_iload (q := 43) dX7_byKeys_41 rfl rfl ?_
  refine fv_ldc (q := 45) dX7_byKeys_43 kX7_66 rfl ?_
  refine fv_icmp_ne (q := 48) 101 dX7_byKeys_45 (by decide) rfl (fun c45 => ?_) (fun c45 => ?_)
  · exact main c45 _ (((K16.rf D).up (Or.inl rfl)).up (Or.inr rfl)) (by rw [up_s, pk_un (by decide), up_s, pk_us]) (by rw [up_s, pk_us])
  · refine fv_aload_n (q := 49) dX7_byKeys_48 rfl rfl ?_
    refine fv_aload_n (q := 50) dX7_byKeys_49 rfl rfl ?_
    refine fv_iconst (v := 2) (q := 51) dX7_byKeys_50 (by decide) rfl ?_
    refine fl_iald (q := 52) 2 dX7_byKeys_51 ha (by decide) rfl (by decide) rfl ?_
    refine fv_top (y := T 2) (by rw [up_n _ _ _ (by omega), up_n _ _ _ (by omega)]; exact hM 2 (by decide)) ?_
    refine fv_bipush (v := 99) (q := 54) dX7_byKeys_52 (by decide) rfl ?_
    refine fv_icmp_ne (q := 57) 61 dX7_byKeys_54 (by decide) rfl (fun c54 => ?_) (fun c54 => ?_)
    · refine fv_aload_n (q := 62) dX7_byKeys_61 rfl rfl ?_
      refine fl_getR (q := 65) dX7_byKeys_62 fX7_41 sh124 rfl rfl ?_
      refine fv_iload_n (q := 66) dX7_byKeys_65 rfl rfl ?_
      refine fl_iald (q := 67) _ dX7_byKeys_66 sh135 (by decide) rfl (by omega) rfl ?_
      refine fv_top (y := nI (gf T n r)) (hL.2.2.2.2.1 r hr) ?_
      refine fl_putI (q := 70) dX7_byKeys_67 fX7_83 sh124 rfl rfl rfl rfl ?_
      refine fv_aload_n (q := 71) dX7_byKeys_70 rfl rfl ?_
      refine fv_aload_n (q := 72) dX7_byKeys_71 rfl rfl ?_
      refine fv_iconst (v := 3) (q := 73) dX7_byKeys_72 (by decide) rfl ?_
      refine fl_iald (q := 74) 3 dX7_byKeys_73 ha (by decide) rfl (by decide) rfl ?_
      refine fv_top (y := T 3) (by rw [up_n _ _ _ (by omega), up_n _ _ _ (by omega), up_n _ _ _ (by omega)]; exact hM 3 (by decide)) ?_
      refine fv_bipush (v := 99) (q := 76) dX7_byKeys_74 (by decide) rfl ?_
      refine fv_icmp_ne (q := 79) 84 dX7_byKeys_76 (by decide) rfl (fun c76 => ?_) (fun c76 => ?_)
      · refine fv_aload_n (q := 85) dX7_byKeys_84 rfl rfl ?_
        refine fl_getR (q := 88) dX7_byKeys_85 fX7_41 sh124 rfl rfl ?_
        refine fv_iload_n (q := 89) dX7_byKeys_88 rfl rfl ?_
        refine fl_iald (q := 90) _ dX7_byKeys_89 sh135 (by decide) rfl (by omega) rfl ?_
        refine fv_top (y := nI (gf T n r)) (hL.2.2.2.2.1 r hr) ?_
        refine fv_aload_n (q := 91) dX7_byKeys_90 rfl rfl ?_
        refine fl_getR (q := 94) dX7_byKeys_91 fX7_44 sh124 rfl rfl ?_
        refine fv_iload_n (q := 95) dX7_byKeys_94 rfl rfl ?_
        refine fl_iald (q := 96) _ dX7_byKeys_95 sh136 (by decide) rfl (by omega) rfl ?_
        refine fv_top (y := nI (gm T n r)) (hL.2.2.2.2.2.1 r hr) ?_
        refine fv_iadd (q := 97) dX7_byKeys_96 rfl ?_
        refine fv_top (nI_add _ _) ?_
        refine fl_putI (q := 100) dX7_byKeys_97 fX7_87 sh124 rfl rfl rfl rfl ?_
        refine fv_vret dX7_byKeys_100 rfl rfl (Nat.le_refl _) ?_
        exact hPost _ _ _ ⟨rfl, rfl, ((((K16.rf D).up (Or.inl rfl)).up (Or.inr rfl)).up (Or.inl rfl)).up (Or.inr rfl), (by rw [up_s, pk_un (by decide), up_s, pk_us]; exact FF_miss v hr h c45 c54), (by rw [up_s, pk_us]; exact TT_miss v hr h c45 c76)⟩
      · refine fv_iload (q := 81) dX7_byKeys_79 rfl rfl ?_
        refine fv_goto 97 dX7_byKeys_81 (by decide) ?_
        refine fl_putI (q := 100) dX7_byKeys_97 fX7_87 sh124 rfl rfl rfl rfl ?_
        refine fv_vret dX7_byKeys_100 rfl rfl (Nat.le_refl _) ?_
        exact hPost _ _ _ ⟨rfl, rfl, ((((K16.rf D).up (Or.inl rfl)).up (Or.inr rfl)).up (Or.inl rfl)).up (Or.inr rfl), (by rw [up_s, pk_un (by decide), up_s, pk_us]; exact FF_miss v hr h c45 c54), (by rw [up_s, pk_us]; exact TT_open v hr c76)⟩
    · refine fv_iload_n (q := 58) dX7_byKeys_57 rfl rfl ?_
      refine fv_goto 67 dX7_byKeys_58 (by decide) ?_
      refine fl_putI (q := 70) dX7_byKeys_67 fX7_83 sh124 rfl rfl rfl rfl ?_
      refine fv_aload_n (q := 71) dX7_byKeys_70 rfl rfl ?_
      refine fv_aload_n (q := 72) dX7_byKeys_71 rfl rfl ?_
      refine fv_iconst (v := 3) (q := 73) dX7_byKeys_72 (by decide) rfl ?_
      refine fl_iald (q := 74) 3 dX7_byKeys_73 ha (by decide) rfl (by decide) rfl ?_
      refine fv_top (y := T 3) (by rw [up_n _ _ _ (by omega), up_n _ _ _ (by omega), up_n _ _ _ (by omega)]; exact hM 3 (by decide)) ?_
      refine fv_bipush (v := 99) (q := 76) dX7_byKeys_74 (by decide) rfl ?_
      refine fv_icmp_ne (q := 79) 84 dX7_byKeys_76 (by decide) rfl (fun c76 => ?_) (fun c76 => ?_)
      · refine fv_aload_n (q := 85) dX7_byKeys_84 rfl rfl ?_
        refine fl_getR (q := 88) dX7_byKeys_85 fX7_41 sh124 rfl rfl ?_
        refine fv_iload_n (q := 89) dX7_byKeys_88 rfl rfl ?_
        refine fl_iald (q := 90) _ dX7_byKeys_89 sh135 (by decide) rfl (by omega) rfl ?_
        refine fv_top (y := nI (gf T n r)) (hL.2.2.2.2.1 r hr) ?_
        refine fv_aload_n (q := 91) dX7_byKeys_90 rfl rfl ?_
        refine fl_getR (q := 94) dX7_byKeys_91 fX7_44 sh124 rfl rfl ?_
        refine fv_iload_n (q := 95) dX7_byKeys_94 rfl rfl ?_
        refine fl_iald (q := 96) _ dX7_byKeys_95 sh136 (by decide) rfl (by omega) rfl ?_
        refine fv_top (y := nI (gm T n r)) (hL.2.2.2.2.2.1 r hr) ?_
        refine fv_iadd (q := 97) dX7_byKeys_96 rfl ?_
        refine fv_top (nI_add _ _) ?_
        refine fl_putI (q := 100) dX7_byKeys_97 fX7_87 sh124 rfl rfl rfl rfl ?_
        refine fv_vret dX7_byKeys_100 rfl rfl (Nat.le_refl _) ?_
        exact hPost _ _ _ ⟨rfl, rfl, ((((K16.rf D).up (Or.inl rfl)).up (Or.inr rfl)).up (Or.inl rfl)).up (Or.inr rfl), (by rw [up_s, pk_un (by decide), up_s, pk_us]; exact FF_open v hr c54), (by rw [up_s, pk_us]; exact TT_miss v hr h c45 c76)⟩
      · refine fv_iload (q := 81) dX7_byKeys_79 rfl rfl ?_
        refine fv_goto 97 dX7_byKeys_81 (by decide) ?_
        refine fl_putI (q := 100) dX7_byKeys_97 fX7_87 sh124 rfl rfl rfl rfl ?_
        refine fv_vret dX7_byKeys_100 rfl rfl (Nat.le_refl _) ?_
        exact hPost _ _ _ ⟨rfl, rfl, ((((K16.rf D).up (Or.inl rfl)).up (Or.inr rfl)).up (Or.inl rfl)).up (Or.inr rfl), (by rw [up_s, pk_un (by decide), up_s, pk_us]; exact FF_open v hr c54), (by rw [up_s, pk_us]; exact TT_open v hr c76)⟩
set_option maxHeartbeats 4000000 in
set_option maxRecDepth 100000 in
theorem m_byGroups (a : Nat) (ha : shL[a]? = some (.inl (0, 126))) (D : Nat → Nat → Int32) (J : Nat → Nat → Int64) (T : Nat → Int32) (hM : MT D a T) (n : Nat) (v : VT T n) (ha2 : 124 < a ∧ a < 131) (hL : LaidM D T n) (r : Nat) (hr : r < n) (h0 : ¬ T 1 = 0) (h : ¬ T 1 = 1) : FD yX7_byGroups cX7_byGroups 4 none 2 [.ref 124, .ref a, .int (nI r)] D J (fun res D' J' => res = none ∧ J' = J ∧ K16 D D' ∧ FF T n r (D' 124 16) ∧ TT T n r (D' 124 17)) := by
  refine FD.of (by decide) rfl (Nat.le_of_ble_eq_true rfl) (fun Post hPost => ?_)
  show FV _ _ _ _ _ _ _ _ _ _ _ _ [_, _, _, _] [] _
  have h40 := v.2.1
  have hl := part_le (T := T) (n := n) (r := r)
  have hp := pos_part (T := T) hr
  have loopT : ∀ t, t ≤ pf T n r + pm T n r → pf T n r ≤ t → (∀ k, t ≤ k → k < pf T n r + pm T n r → hiz T n r < msz T n k) → (T 3 = 99 → t = pf T n r + pm T n r) → ∀ E : Nat → Nat → Int32, K16 D E → FF T n r (E 124 16) → E 124 17 = nI t → FV cX7_byGroups 4 none yX7_byGroups.cls yX7_byGroups.name 2 0 0 Post 0 0 85 [some (.ref 124), some (.ref a), some (.int (nI r)), some (.int (nI (pf T n r + pm T n r)))] [] (lay E J) := by
    refine dn_ind (fun t ih => ?_)
    intro ht hpt h2 ho E hK hFF hE17
    have hME : MT E a T := by unfold MT; rw [hK.2 a (by omega)]; exact hM
    have hLE : LaidM E T n := hL.of (fun c h1 h2 => hK.2 c (by omega))
    refine fv_aload_n (q := 86) dX7_byGroups_85 rfl rfl ?_
    refine fl_getI (q := 89) dX7_byGroups_86 fX7_87 sh124 rfl rfl ?_
    refine fv_top (y := nI t) hE17 ?_
    refine fv_aload_n (q := 90) dX7_byGroups_89 rfl rfl ?_
    refine fl_getR (q := 93) dX7_byGroups_90 fX7_35 sh124 rfl rfl ?_
    refine fv_iload_n (q := 94) dX7_byGroups_93 rfl rfl ?_
    refine fl_iald (q := 95) _ dX7_byGroups_94 sh133 (by decide) rfl (by omega) rfl ?_
    refine fv_top (y := nI (pf T n r)) (hLE.2.2.1 r hr) ?_
    refine fv_icmp_le (q := 98) 148 dX7_byGroups_95 (by decide) rfl (fun c95 => ?_) (fun c95 => ?_)
    · rw [nI_leI (by omega) (by omega)] at c95
      refine fv_vret dX7_byGroups_148 rfl rfl (Nat.le_refl _) ?_
      exact hPost _ _ _ ⟨rfl, rfl, hK, hFF, by rw [hE17]; exact TT_n v hr ht h2 (fun g => by omega)⟩
    · rw [nI_leI (by omega) (by omega)] at c95
      refine fv_aload_n (q := 99) dX7_byGroups_98 rfl rfl ?_
      refine fv_iconst (v := 3) (q := 100) dX7_byGroups_99 (by decide) rfl ?_
      refine fl_iald (q := 101) 3 dX7_byGroups_100 ha (by decide) rfl (by decide) rfl ?_
      refine fv_top (y := T 3) (hME 3 (by decide)) ?_
      refine fv_bipush (v := 99) (q := 103) dX7_byGroups_101 (by decide) rfl ?_
      refine fv_icmp_eq (q := 106) 148 dX7_byGroups_103 (by decide) rfl (fun c103 => ?_) (fun c103 => ?_)
      · refine fv_vret dX7_byGroups_148 rfl rfl (Nat.le_refl _) ?_
        exact hPost _ _ _ ⟨rfl, rfl, hK, hFF, by rw [hE17, ho c103]; exact TT_open v hr c103⟩
      · refine fv_aload_n (q := 107) dX7_byGroups_106 rfl rfl ?_
        refine fl_getR (q := 110) dX7_byGroups_107 fX7_47 sh124 rfl rfl ?_
        refine fv_aload_n (q := 111) dX7_byGroups_110 rfl rfl ?_
        refine fl_getR (q := 114) dX7_byGroups_111 fX7_29 sh124 rfl rfl ?_
        refine fv_aload_n (q := 115) dX7_byGroups_114 rfl rfl ?_
        refine fl_getI (q := 118) dX7_byGroups_115 fX7_87 sh124 rfl rfl ?_
        refine fv_top (y := nI t) hE17 ?_
        refine fv_iconst (v := 1) (q := 119) dX7_byGroups_118 (by decide) rfl ?_
        refine fv_isub (q := 120) dX7_byGroups_119 rfl ?_
        refine fv_top (y := nI (t - 1)) (nI_mm (by omega)) ?_
        refine fl_iald (q := 121) (t - 1) dX7_byGroups_120 sh131 (by decide) rfl (by omega) rfl ?_
        refine fv_top (y := nI (lin T n (t - 1))) (hLE.1 (t - 1) (by omega)) ?_
        have hll := lin_lt (T := T) (n := n) (k := (t - 1)) (by omega)
        refine fl_iald (q := 122) (lin T n (t - 1)) dX7_byGroups_121 sh137 (by decide) rfl (by omega) rfl ?_
        refine fv_top (y := nI (gr T n (lin T n (t - 1)))) (hLE.2.2.2.2.2.2 _ hll) ?_
        refine fv_aload_n (q := 123) dX7_byGroups_122 rfl rfl ?_
        refine fl_getR (q := 126) dX7_byGroups_123 fX7_47 sh124 rfl rfl ?_
        refine fv_iload_n (q := 127) dX7_byGroups_126 rfl rfl ?_
        refine fl_iald (q := 128) _ dX7_byGroups_127 sh137 (by decide) rfl (by omega) rfl ?_
        refine fv_top (y := nI (gr T n r)) (hLE.2.2.2.2.2.2 r hr) ?_
        refine fv_aload_n (q := 129) dX7_byGroups_128 rfl rfl ?_
        refine fv_iconst (v := 3) (q := 130) dX7_byGroups_129 (by decide) rfl ?_
        refine fl_iald (q := 131) 3 dX7_byGroups_130 ha (by decide) rfl (by decide) rfl ?_
        refine fv_top (y := T 3) (hME 3 (by decide)) ?_
        refine fv_iadd (q := 132) dX7_byGroups_131 rfl ?_
        refine fv_icmp_le (q := 135) 148 dX7_byGroups_132 (by decide) rfl (fun c132 => ?_) (fun c132 => ?_)
        · refine fv_vret dX7_byGroups_148 rfl rfl (Nat.le_refl _) ?_
          exact hPost _ _ _ ⟨rfl, rfl, hK, hFF, by rw [hE17]; exact TT_n v hr ht h2 (fun g => Int.not_lt.mp (mt (gT v hr (by omega) h0 h c103).mp (by rw [fa_lt]; rw [fa_le] at c132; omega)))⟩
        · refine fv_aload_n (q := 136) dX7_byGroups_135 rfl rfl ?_
          refine fv_dup (q := 137) dX7_byGroups_136 rfl rfl ?_
          refine fl_getI (q := 140) dX7_byGroups_137 fX7_87 sh124 rfl rfl ?_
          refine fv_top (y := nI t) hE17 ?_
          refine fv_iconst (v := 1) (q := 141) dX7_byGroups_140 (by decide) rfl ?_
          refine fv_isub (q := 142) dX7_byGroups_141 rfl ?_
          refine fv_top (y := nI (t - 1)) (nI_mm (by omega)) ?_
          refine fl_putI (q := 145) dX7_byGroups_142 fX7_87 sh124 rfl rfl rfl rfl ?_
          refine fv_goto 85 dX7_byGroups_145 (by decide) ?_
          have hs := (gT v hr (f := t - 1) (by omega) h0 h c103).mpr (by rw [fa_le] at c132; rw [fa_lt]; omega)
          refine ih (by omega) (by omega) (by omega) (fun k g1 g2 => ?_) (fun z => absurd z c103) _ (hK.up (Or.inr rfl)) (by rw [up_s, pk_un (by decide)]; exact hFF) (by rw [up_s, pk_us])
          by_cases e9 : k = t - 1
          · rw [e9]; exact hs
          · exact h2 k (by omega) g2
  have loopF : ∀ f, f ≤ pf T n r + pm T n r → pf T n r ≤ f → (∀ k, pf T n r ≤ k → k < f → msz T n k < loz T n r) → (T 2 = 99 → f = pf T n r) → ∀ E : Nat → Nat → Int32, K16 D E → E 124 16 = nI f → E 124 17 = nI (pf T n r + pm T n r) → FV cX7_byGroups 4 none yX7_byGroups.cls yX7_byGroups.name 2 0 0 Post 0 0 29 [some (.ref 124), some (.ref a), some (.int (nI r)), some (.int (nI (pf T n r + pm T n r)))] [] (lay E J) := by
    refine up_ind (fun f hf ih => ?_)
    intro hpf h2 ho E hK hE16 hE17
    have hME : MT E a T := by unfold MT; rw [hK.2 a (by omega)]; exact hM
    have hLE : LaidM E T n := hL.of (fun c h1 h2 => hK.2 c (by omega))
    refine fv_aload_n (q := 30) dX7_byGroups_29 rfl rfl ?_
    refine fl_getI (q := 33) dX7_byGroups_30 fX7_83 sh124 rfl rfl ?_
    refine fv_top (y := nI f) hE16 ?_
    refine fv_iload_n (q := 34) dX7_byGroups_33 rfl rfl ?_
    refine fv_icmp_ge (q := 37) 85 dX7_byGroups_34 (by decide) rfl (fun c34 => ?_) (fun c34 => ?_)
    · rw [nI_leI (by omega) (by omega)] at c34
      exact loopT _ (Nat.le_refl _) (by omega) (fun k g1 g2 => absurd g2 (by omega)) (fun _ => rfl) E hK (by rw [hE16]; exact FF_n v hr hpf (by omega) h2 (fun g => absurd g (by omega))) hE17
    · rw [nI_leI (by omega) (by omega)] at c34
      refine fv_aload_n (q := 38) dX7_byGroups_37 rfl rfl ?_
      refine fv_iconst (v := 2) (q := 39) dX7_byGroups_38 (by decide) rfl ?_
      refine fl_iald (q := 40) 2 dX7_byGroups_39 ha (by decide) rfl (by decide) rfl ?_
      refine fv_top (y := T 2) (hME 2 (by decide)) ?_
      refine fv_bipush (v := 99) (q := 42) dX7_byGroups_40 (by decide) rfl ?_
      refine fv_icmp_eq (q := 45) 85 dX7_byGroups_42 (by decide) rfl (fun c42 => ?_) (fun c42 => ?_)
      · exact loopT _ (Nat.le_refl _) (by omega) (fun k g1 g2 => absurd g2 (by omega)) (fun _ => rfl) E hK (by rw [hE16]; exact (by rw [ho c42]; exact FF_open v hr c42)) hE17
      · refine fv_aload_n (q := 46) dX7_byGroups_45 rfl rfl ?_
        refine fl_getR (q := 49) dX7_byGroups_46 fX7_47 sh124 rfl rfl ?_
        refine fv_aload_n (q := 50) dX7_byGroups_49 rfl rfl ?_
        refine fl_getR (q := 53) dX7_byGroups_50 fX7_29 sh124 rfl rfl ?_
        refine fv_aload_n (q := 54) dX7_byGroups_53 rfl rfl ?_
        refine fl_getI (q := 57) dX7_byGroups_54 fX7_83 sh124 rfl rfl ?_
        refine fv_top (y := nI f) hE16 ?_
        refine fl_iald (q := 58) f dX7_byGroups_57 sh131 (by decide) rfl (by omega) rfl ?_
        refine fv_top (y := nI (lin T n f)) (hLE.1 f (by omega)) ?_
        have hll := lin_lt (T := T) (n := n) (k := f) (by omega)
        refine fl_iald (q := 59) (lin T n f) dX7_byGroups_58 sh137 (by decide) rfl (by omega) rfl ?_
        refine fv_top (y := nI (gr T n (lin T n f))) (hLE.2.2.2.2.2.2 _ hll) ?_
        refine fv_aload_n (q := 60) dX7_byGroups_59 rfl rfl ?_
        refine fl_getR (q := 63) dX7_byGroups_60 fX7_47 sh124 rfl rfl ?_
        refine fv_iload_n (q := 64) dX7_byGroups_63 rfl rfl ?_
        refine fl_iald (q := 65) _ dX7_byGroups_64 sh137 (by decide) rfl (by omega) rfl ?_
        refine fv_top (y := nI (gr T n r)) (hLE.2.2.2.2.2.2 r hr) ?_
        refine fv_aload_n (q := 66) dX7_byGroups_65 rfl rfl ?_
        refine fv_iconst (v := 2) (q := 67) dX7_byGroups_66 (by decide) rfl ?_
        refine fl_iald (q := 68) 2 dX7_byGroups_67 ha (by decide) rfl (by decide) rfl ?_
        refine fv_top (y := T 2) (hME 2 (by decide)) ?_
        refine fv_iadd (q := 69) dX7_byGroups_68 rfl ?_
        refine fv_icmp_ge (q := 72) 85 dX7_byGroups_69 (by decide) rfl (fun c69 => ?_) (fun c69 => ?_)
        · exact loopT _ (Nat.le_refl _) (by omega) (fun k g1 g2 => absurd g2 (by omega)) (fun _ => rfl) E hK (by rw [hE16]; exact FF_n v hr hpf (by omega) h2 (fun g => Int.not_lt.mp (mt (gF v hr (by omega) h0 h c42).mp (by rw [fa_lt]; rw [fa_le] at c69; omega)))) hE17
        · refine fv_aload_n (q := 73) dX7_byGroups_72 rfl rfl ?_
          refine fv_dup (q := 74) dX7_byGroups_73 rfl rfl ?_
          refine fl_getI (q := 77) dX7_byGroups_74 fX7_83 sh124 rfl rfl ?_
          refine fv_top (y := nI f) hE16 ?_
          refine fv_iconst (v := 1) (q := 78) dX7_byGroups_77 (by decide) rfl ?_
          refine fv_iadd (q := 79) dX7_byGroups_78 rfl ?_
          refine fv_top (nI_1 _) ?_
          refine fl_putI (q := 82) dX7_byGroups_79 fX7_83 sh124 rfl rfl rfl rfl ?_
          refine fv_goto 29 dX7_byGroups_82 (by decide) ?_
          have hs := (gF v hr (f := f) (by omega) h0 h c42).mpr (by rw [fa_le] at c69; rw [fa_lt]; omega)
          refine ih (by omega) (by omega) (fun k g1 g2 => ?_) (fun z => absurd z c42) _ (hK.up (Or.inl rfl)) (by rw [up_s, pk_us]) (by rw [up_s, pk_un (by decide)]; exact hE17)
          by_cases e9 : k = f
          · rw [e9]; exact hs
          · exact h2 k g1 (by omega)
  refine fv_aload_n (q := 1) dX7_byGroups_0 rfl rfl ?_
  refine fl_getR (q := 4) dX7_byGroups_1 fX7_35 sh124 rfl rfl ?_
  refine fv_iload_n (q := 5) dX7_byGroups_4 rfl rfl ?_
  refine fl_iald (q := 6) _ dX7_byGroups_5 sh133 (by decide) rfl (by omega) rfl ?_
  refine fv_top (y := nI (pf T n r)) (hL.2.2.1 r hr) ?_
  refine fv_aload_n (q := 7) dX7_byGroups_6 rfl rfl ?_
  refine fl_getR (q := 10) dX7_byGroups_7 fX7_38 sh124 rfl rfl ?_
  refine fv_iload_n (q := 11) dX7_byGroups_10 rfl rfl ?_
  refine fl_iald (q := 12) _ dX7_byGroups_11 sh134 (by decide) rfl (by omega) rfl ?_
  refine fv_top (y := nI (pm T n r)) (hL.2.2.2.1 r hr) ?_
  refine fv_iadd (q := 13) dX7_byGroups_12 rfl ?_
  refine fv_top (nI_add _ _) ?_
  refine fv_istore_n (i := 3) (q := 14) (l' := [_, _, _, _]) dX7_byGroups_13 rfl (by decide) rfl rfl rfl ?_
  refine fv_aload_n (q := 15) dX7_byGroups_14 rfl rfl ?_
  refine fv_aload_n (q := 16) dX7_byGroups_15 rfl rfl ?_
  refine fl_getR (q := 19) dX7_byGroups_16 fX7_35 sh124 rfl rfl ?_
  refine fv_iload_n (q := 20) dX7_byGroups_19 rfl rfl ?_
  refine fl_iald (q := 21) _ dX7_byGroups_20 sh133 (by decide) rfl (by omega) rfl ?_
  refine fv_top (y := nI (pf T n r)) (hL.2.2.1 r hr) ?_
  refine fl_putI (q := 24) dX7_byGroups_21 fX7_83 sh124 rfl rfl rfl rfl ?_
  refine fv_aload_n (q := 25) dX7_byGroups_24 rfl rfl ?_
  refine fv_iload_n (q := 26) dX7_byGroups_25 rfl rfl ?_
  refine fl_putI (q := 29) dX7_byGroups_26 fX7_87 sh124 rfl rfl rfl rfl ?_
  exact loopF _ (by omega) (Nat.le_refl _) (fun k g1 g2 => absurd g2 (by omega)) (fun _ => rfl) _ (((K16.rf D).up (Or.inl rfl)).up (Or.inr rfl)) (by rw [up_s, pk_un (by decide), up_s, pk_us]) (by rw [up_s, pk_us])
