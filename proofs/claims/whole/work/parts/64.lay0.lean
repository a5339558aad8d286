/-! the cells that the constructors make are the first state's -/
theorem cg2 {α β γ : Type} (f : α → β → γ) {a a' : α} {b b' : β} (h : a = a') (h2 : b = b') : f a b = f a' b' := by rw [h, h2]
def lc (D : Nat → Nat → Int32) (J : Nat → Nat → Int64) (o : Nat) (S : List sT) : List va_E := S.mapIdx (fun i s => fcell D J (o + i) s)
theorem lc_nil (D : Nat → Nat → Int32) (J : Nat → Nat → Int64) (o : Nat) : lc D J o [] = [] := by simp [lc]
theorem lc_cons (D : Nat → Nat → Int32) (J : Nat → Nat → Int64) (o : Nat) (s : sT) (S : List sT) : lc D J o (s :: S) = fcell D J o s :: lc D J (o + 1) S := by
  unfold lc
  rw [List.mapIdx_cons, Nat.add_zero]
  congr 2
  funext i
  rw [show o + (i + 1) = o + 1 + i by omega]
theorem lc_app (D : Nat → Nat → Int32) (J : Nat → Nat → Int64) (o : Nat) (S1 S2 : List sT) : lc D J o (S1 ++ S2) = lc D J o S1 ++ lc D J (o + S1.length) S2 := by
  unfold lc
  rw [List.mapIdx_append]
  congr 2
  funext i
  rw [show o + (i + S1.length) = o + S1.length + i by omega]
theorem lay_lc (D : Nat → Nat → Int32) (J : Nat → Nat → Int64) : lay D J = lc D J 0 shL := by
  unfold lay lc
  congr 1
  funext i
  rw [Nat.zero_add]
def D0 : Nat → Nat → Int32 := fun i k => if (k = 5 ∧ (i = 3 ∨ i = 16 ∨ (29 ≤ i ∧ i < 109 ∧ (i - 29) % 4 = 0) ∨ i = 115 ∨ i = 120)) ∨ (k = 2 ∧ i = 125) then 99 else 0
def J0 : Nat → Nat → Int64 := fun _ _ => 0
theorem D0_t {t : Nat} (h : TabIx t) : D0 t 5 = 99 := by
  unfold D0
  rw [if_pos]
  rcases h with h | h | ⟨k, hk, h⟩ | h | h <;> omega
theorem D0_z {t k : Nat} (h : TabIx t) (hk : k ≠ 5) : D0 t k = 0 := by
  unfold D0
  rw [if_neg]
  rcases h with h | h | ⟨k, hk, h⟩ | h | h <;> omega
theorem D0_a {t j : Nat} (h : TabIx t) (h1 : 0 < j) (h2 : j < 4) : D0 (t + j) = fun _ => 0 := by
  funext k
  unfold D0
  rw [if_neg]
  rcases h with h | h | ⟨k, hk, h⟩ | h | h <;> omega
theorem D0_o {i : Nat} (h1 : ¬ (i = 3 ∨ i = 16 ∨ (29 ≤ i ∧ i < 109 ∧ (i - 29) % 4 = 0) ∨ i = 115 ∨ i = 120)) (h2 : i ≠ 125) : D0 i = fun _ => 0 := by
  funext k
  unfold D0
  rw [if_neg (by omega)]
theorem D0_n : D0 125 = upd (fun _ => 0) 2 99 := by
  funext k
  unfold D0
  by_cases h : k = 2
  · subst h; rw [pk_us, if_pos (by omega)]
  · rw [pk_un h, if_neg (by omega)]
theorem fc_ar {i n : Nat} (h : D0 i = fun _ => 0) : fcell D0 J0 i (.inl (0, n)) = ar n := by
  show (.inl (0, n, .inl (D0 i)) : va_E) = _
  rw [h]; rfl
theorem fc_arZ {i n : Nat} (h : D0 i = fun _ => 0) : fcell D0 J0 i (.inl (2, n)) = arZ n := by
  show (.inl (2, n, .inl (D0 i)) : va_E) = _
  rw [h]; rfl
theorem fc_arJ (i n : Nat) : fcell D0 J0 i (.inl (1, n)) = arJ n := rfl
theorem tab_lc {t : Nat} (h : TabIx t) : lc D0 J0 t (tabS t) = tabC t := by
  unfold tabS tabC
  rw [lc_cons, lc_cons, lc_cons, lc_cons, lc_nil, fc_ar (D0_a (j := 1) h (by decide) (by decide)), fc_ar (D0_a (j := 2) h (by decide) (by decide)), fc_ar (D0_a (j := 3) h (by decide) (by decide))]
  show ((.inr (5, [.ref (t + 1), .ref (t + 2), .ref (t + 3), .int (D0 t 3), .int (D0 t 4), .int (D0 t 5), .int (D0 t 6), .int (D0 t 7), .int (D0 t 8)]) : va_E) :: _) = _
  rw [D0_t h, D0_z h (by decide), D0_z h (by decide), D0_z h (by decide), D0_z h (by decide), D0_z h (by decide)]
theorem len_lc {b : Nat} (h : LenIx b) : lc D0 J0 b (lenS b) = lenC b := by
  have ht := h.tab
  have ho : ∀ j, j < 13 → j ≠ 2 → D0 (b + j) = fun _ => 0 := fun j h1 h2 => D0_o (by rcases h with h | h <;> omega) (by rcases h with h | h <;> omega)
  have o0 := ho 0 (by decide) (by decide)
  unfold lenS ordS lenC ordC
  rw [lc_cons, lc_app, lc_cons, lc_app, show b + 1 + 1 = b + 2 from rfl, tab_lc ht]
  rw [lc_cons, lc_cons, lc_cons, lc_cons, lc_nil, lc_cons, lc_cons, lc_cons, lc_nil]
  have e6 := fc_ar (n := 40) (ho 6 (by decide) (by decide))
  have e7 := fc_ar (n := 40) (ho 7 (by decide) (by decide))
  have e8 := fc_ar (n := 40) (ho 8 (by decide) (by decide))
  have e9 := fc_ar (n := 40) (ho 9 (by decide) (by decide))
  have e10 := fc_ar (n := 40) (ho 10 (by decide) (by decide))
  have e11 := fc_ar (n := 40) (ho 11 (by decide) (by decide))
  have e12 := fc_arJ (b + 12) 40
  have c0 : fcell D0 J0 b (.inr (3, [some (b + 1), some (b + 2), some (b + 10), some (b + 11), some (b + 12), none, none])) = .inr (3, [.ref (b + 1), .ref (b + 2), .ref (b + 10), .ref (b + 11), .ref (b + 12), .int 0, .int 0]) := by
    show (.inr (3, [.ref (b + 1), .ref (b + 2), .ref (b + 10), .ref (b + 11), .ref (b + 12), .int (D0 b 5), .int (D0 b 6)]) : va_E) = _
    have o0 : D0 b = fun _ => 0 := o0
    rw [o0]
  rw [c0]
  refine cg2 List.cons rfl ?_
  refine cg2 HAppend.hAppend ?_ ?_
  · refine cg2 List.cons rfl ?_
    refine cg2 HAppend.hAppend rfl ?_
    exact cg2 List.cons e6 (cg2 List.cons e7 (cg2 List.cons e8 (cg2 List.cons e9 rfl)))
  · exact cg2 List.cons e10 (cg2 List.cons e11 (cg2 List.cons e12 rfl))
theorem tbs_lc : ∀ i, i ≤ 20 → lc D0 J0 29 ((List.range i).flatMap (fun k => tabS (29 + 4 * k))) = tbs 27 i ∧ ((List.range i).flatMap (fun k => tabS (29 + 4 * k))).length = 4 * i
  | 0, _ => ⟨lc_nil _ _ _, rfl⟩
  | i + 1, h => by
    obtain ⟨h1, h2⟩ := tbs_lc i (by omega)
    rw [List.range_succ, List.flatMap_append, lc_app, h1, h2, List.length_append, h2]
    have e : ([i] : List Nat).flatMap (fun k => tabS (29 + 4 * k)) = tabS (29 + 4 * i) := by simp
    rw [e, tab_lc (tabH (by omega)), tbs, show 27 + (2 + 4 * i) = 29 + 4 * i by omega]
    refine ⟨rfl, ?_⟩
    show 4 * i + 4 = _
    omega
theorem his_lc : lc D0 J0 27 hisS = hisC 27 := by
  unfold hisS hisC
  rw [lc_cons, lc_cons, (tbs_lc 20 (by decide)).1]
  have o : D0 27 = fun _ => 0 := D0_o (by decide) (by decide)
  refine cg2 List.cons ?_ (cg2 List.cons ?_ rfl)
  · show (.inr (1, [.ref 28, .int (D0 27 1), .int (D0 27 2)]) : va_E) = _
    rw [o]
  · show ar3 20 (fun j => if j < 20 then some (29 + 4 * j) else none) = _
    congr 1
    funext j
    rw [show 27 + (2 + 4 * j) = 29 + 4 * j by omega]
theorem img_lc {i : Nat} (h : TabIx (i + 1)) (ho : D0 i = fun _ => 0) : lc D0 J0 i (imgS i) = imgC i := by
  unfold imgS imgC
  rw [lc_cons, tab_lc h]
  refine cg2 List.cons ?_ rfl
  show (.inr (2, [.ref (i + 1), .int (D0 i 1), .int (D0 i 2)]) : va_E) = _
  rw [ho]
theorem bok_lc : lc D0 J0 109 [.inr (0, [some 110, some 111, some 112, none]), .inl (0, 20), .inl (0, 20), .inl (0, 20), .inl (4, 2)] = bokC 109 ++ [ar4 2 (va_up (va_up (fun _ => none) 0 (some 114)) 1 (some 119))] := by
  rw [lc_cons, lc_cons, lc_cons, lc_cons, lc_cons, lc_nil]
  have o9 : D0 109 = fun _ => 0 := D0_o (by decide) (by decide)
  refine cg2 List.cons ?_ (cg2 List.cons (fc_ar (D0_o (by decide) (by decide))) (cg2 List.cons (fc_ar (D0_o (by decide) (by decide))) (cg2 List.cons (fc_ar (D0_o (by decide) (by decide))) (cg2 List.cons ?_ rfl))))
  · show (.inr (0, [.ref 110, .ref 111, .ref 112, .int (D0 109 3)]) : va_E) = _
    rw [o9]
  · show ar4 2 (fun j => if j < 2 then some (114 + 5 * j) else none) = _
    congr 1
    funext j
    unfold va_up
    rcases (show j = 0 ∨ j = 1 ∨ 2 ≤ j by omega) with h | h | h
    · subst h; rfl
    · subst h; rfl
    · rw [if_neg (by omega), if_neg (by omega), if_neg (by omega)]
theorem lenS_len (b : Nat) : (lenS b).length = 13 := rfl
theorem hisS_len : hisS.length = 82 := by
  show ((List.range 20).flatMap (fun k => tabS (29 + 4 * k))).length + 1 + 1 = 82
  rw [(tbs_lc 20 (by decide)).2]
theorem desk_lc : lc D0 J0 0 shX = deskC 0 := by
  have o : D0 0 = fun _ => 0 := D0_o (by decide) (by decide)
  unfold shX deskC dQ
  rw [lc_cons, lc_app, lc_app, lc_app, lc_app, lc_app, lenS_len, lenS_len, hisS_len]
  show fcell D0 J0 0 _ :: (lc D0 J0 1 (lenS 1) ++ (lc D0 J0 14 (lenS 14) ++ (lc D0 J0 27 hisS ++ (lc D0 J0 109 _ ++ (lc D0 J0 114 (imgS 114) ++ lc D0 J0 119 (imgS 119)))))) = _
  rw [len_lc len1, len_lc len14, his_lc, bok_lc, img_lc (i := 114) (tabI (i := 0) (by decide)) (D0_o (by decide) (by decide)), img_lc (i := 119) (tabI (i := 1) (by decide)) (D0_o (by decide) (by decide))]
  refine cg2 List.cons ?_ ?_
  · show (.inr (6, [.ref 1, .ref 2, .ref 3, .ref 14, .ref 15, .ref 16, .ref 27, .ref 109, .ref 113, .int (D0 0 9)]) : va_E) = _
    rw [o]; rfl
  · simp only [List.append_assoc, List.cons_append, List.nil_append]
theorem mdl_lc : lc D0 J0 124 mdlS = mdlC 124 := by
  unfold mdlS mdlC
  have o : D0 124 = fun _ => 0 := D0_o (by decide) (by decide)
  rw [lc_cons, lc_cons, lc_cons, lc_cons, lc_cons, lc_cons, lc_cons, lc_cons, lc_cons, lc_cons, lc_cons, lc_cons, lc_cons, lc_cons, lc_cons, lc_cons, lc_cons, lc_cons, lc_cons, lc_nil]
  refine cg2 List.cons ?_ (cg2 List.cons ?_ ?_)
  · show (.inr (7, [.ref 125, .ref 126, .ref 127, .int (D0 124 3), .ref 128, .ref 129, .int (D0 124 6), .ref 130, .int (D0 124 8), .ref 131, .ref 132, .ref 133, .ref 134, .ref 135, .ref 136, .ref 137, .int (D0 124 16), .int (D0 124 17), .int (D0 124 18), .ref 138, .ref 139, .int (D0 124 21), .ref 140, .ref 141, .ref 142]) : va_E) = _
    rw [o]
  · show (.inl (0, 126, .inl (D0 125)) : va_E) = _
    rw [D0_n]
  · have a : ∀ i n, 125 < i → fcell D0 J0 i (.inl (0, n)) = ar n := fun i n h => fc_ar (D0_o (by omega) (by omega))
    have z : fcell D0 J0 129 (.inl (2, 2)) = arZ 2 := fc_arZ (D0_o (by decide) (by decide))
    exact cg2 List.cons (a 126 _ (by decide)) (cg2 List.cons (a 127 _ (by decide)) (cg2 List.cons (a 128 _ (by decide)) (cg2 List.cons z (cg2 List.cons (a 130 _ (by decide)) (cg2 List.cons (a 131 _ (by decide)) (cg2 List.cons (a 132 _ (by decide)) (cg2 List.cons (a 133 _ (by decide)) (cg2 List.cons (a 134 _ (by decide)) (cg2 List.cons (a 135 _ (by decide)) (cg2 List.cons (a 136 _ (by decide)) (cg2 List.cons (a 137 _ (by decide)) (cg2 List.cons (a 138 _ (by decide)) (cg2 List.cons (a 139 _ (by decide)) (cg2 List.cons (fc_arJ 140 40) (cg2 List.cons (a 141 _ (by decide)) (cg2 List.cons (a 142 _ (by decide)) rfl))))))))))))))))
theorem shX_len : shX.length = 124 := by
  show (lenS 1 ++ (lenS 14 ++ (hisS ++ (_ ++ (imgS 114 ++ imgS 119))))).length + 1 = 124
  rw [List.length_append, List.length_append, List.length_append, lenS_len, lenS_len, hisS_len]; rfl
theorem deskC_len : (deskC 0).length = 124 := by rw [← desk_lc]; unfold lc; rw [List.length_mapIdx, shX_len]
theorem lay_0 : deskC 0 ++ mdlC 124 = lay D0 J0 := by
  rw [lay_lc, shL, lc_app, desk_lc, shX_len, mdl_lc]
/-- the first state -/
def T0 : Nat → Int32 := fun x => if x = 2 then 99 else 0
def σ0 : Sg := (T0, 0, [], (fun _ => none), [], 0)
theorem T0_z {x : Nat} (h : x ≠ 2) : T0 x = 0 := if_neg h
theorem VT_0 : VT T0 0 := ⟨rfl, by decide, Or.inl rfl, Or.inl rfl, Or.inr (by decide), fun r hr => absurd hr (Nat.not_lt_zero _)⟩
theorem ok_0 : SgOk σ0 := ⟨VT_0, fun U h => (by cases h), fun i q _ h => (by cases h), by decide, by decide, fun q h => (by cases h), by decide⟩
theorem xr_0 : XR D0 σ0 := by
  refine ⟨⟨fun f hf => ?_, fun r hr => ?_, fun r hr => ?_, fun r hr => ?_⟩, ⟨fun k h => absurd h (Nat.not_lt_zero _), fun k h => absurd h (Nat.not_lt_zero _), fun k h => absurd h (Nat.not_lt_zero _), fun k h => absurd h (Nat.not_lt_zero _)⟩, ⟨0, by decide, ?_, ?_, by decide, fun j T h => by simp [σ0] at h⟩, fun i hi => ⟨fun _ => ?_, fun q h => by cases h⟩, ⟨?_, by decide, fun j q h => by simp [σ0] at h⟩, ?_⟩
  · show D0 3 (3 + f) = T0 f
    by_cases h : f = 2
    · subst h; exact D0_t tab3
    · rw [T0_z h]; exact D0_z tab3 (by omega)
  · show D0 (3 + 1) r = T0 (6 + r)
    rw [T0_z (by omega), D0_a tab3 (by decide) (by decide)]
  · show D0 (3 + 2) r = T0 (46 + r)
    rw [T0_z (by omega), D0_a tab3 (by decide) (by decide)]
  · show D0 (3 + 3) r = T0 (86 + r)
    rw [T0_z (by omega), D0_a tab3 (by decide) (by decide)]
  · rw [D0_o (by decide) (by decide)]; rfl
  · rw [D0_o (by decide) (by decide)]; rfl
  · rw [D0_o (by omega) (by omega)]
  · rw [D0_o (by decide) (by decide)]; rfl
  · rw [D0_o (by decide) (by decide)]; rfl
theorem mr_0 : MR D0 σ0 := by
  have o : D0 124 = fun _ => 0 := D0_o (by decide) (by decide)
  refine ⟨fun x hx => ?_, ⟨by rw [o]; rfl, by decide, fun j U h => by simp [σ0] at h⟩, fun i hi => ⟨fun _ => by rw [D0_o (by decide) (by decide)], fun q h => by cases h⟩, ⟨by rw [o]; rfl, by decide, fun j q h => by simp [σ0] at h⟩, by rw [o]; rfl⟩
  show D0 125 x = T0 x
  rw [D0_n]
  by_cases h : x = 2
  · subst h; rw [pk_us]; rfl
  · rw [pk_un h, T0_z h]
