/-! the model: its deeds -/
theorem nI_mulc (c u : Nat) : nI c * nI u = nI (c * u) := (Int32.ofNat_mul c u).symm
def KD (D E : Nat → Nat → Int32) : Prop := (∀ x, x < 16 → x ≠ 3 → E 124 x = D 124 x) ∧ ∀ c, (c < 124 ∨ (127 < c ∧ c < 131)) → E c = D c
theorem KD.rf (D : Nat → Nat → Int32) : KD D D := ⟨fun _ _ _ => rfl, fun _ _ => rfl⟩
theorem KD.tr {D E F : Nat → Nat → Int32} (h : KD D E) (h2 : KD E F) : KD D F := ⟨fun x hx g => (h2.1 x hx g).trans (h.1 x hx g), fun c hc => (h2.2 c hc).trans (h.2 c hc)⟩
theorem KR.kd {D E : Nat → Nat → Int32} (h : KR D E) : KD D E := ⟨fun x hx _ => h.1 x hx, fun c hc => h.2 c (by omega)⟩
theorem KD.ua {D E : Nat → Nat → Int32} {i x : Nat} {y : Int32} (h : KD D E) (hi : (124 < i ∧ i < 128) ∨ 131 ≤ i) : KD D (up E i x y) :=
  ⟨fun z h1 g => by rw [up_n _ _ _ (by omega)]; exact h.1 z h1 g, fun c hc => by rw [up_n _ _ _ (by omega)]; exact h.2 c hc⟩
theorem KD.oth {D E : Nat → Nat → Int32} {i : Nat} (h : ∀ c, c ≠ i → E c = D c) (hi : (124 < i ∧ i < 128) ∨ 131 ≤ i) : KD D E := ⟨fun x _ _ => by rw [h 124 (by omega)], fun c hc => h c (by omega)⟩
theorem KD.km {D E : Nat → Nat → Int32} {J : Nat → Nat → Int64} (h : KD D E) : KM D E J J := ⟨fun a ha => h.2 a (Or.inl ha), fun _ _ => rfl⟩
theorem MR.mk {D : Nat → Nat → Int32} {T : Nat → Int32} {n : Nat} {P : List (Nat → Int32)} {I : Nat → Option ((Nat → Int32) × Int32)} {B : List (Nat × Int32 × Int32)} {s : Int32} (h1 : MT D 125 T) (h2 : PastM D P) (h3 : ImgM D I) (h4 : BookM D B) (h5 : D 124 6 = s) : MR D (T, n, P, I, B, s) := ⟨h1, h2, h3, h4, h5⟩
theorem KD.mr {D E : Nat → Nat → Int32} {T' : Nat → Int32} {n' : Nat} {P' : List (Nat → Int32)} {I : Nat → Option ((Nat → Int32) × Int32)} {B : List (Nat × Int32 × Int32)} {s : Int32} (h : KD D E) (hI : ImgM D I) (hB : BookM D B) (hs : D 124 6 = s) (hM : MT E 125 T') (hP : PastM E P') : MR E (T', n', P', I, B, s) :=
  MR.mk hM hP (hI.of (h.2 129 (by decide)) (h.2 128 (by decide))) (hB.of (h.1 8 (by decide) (by decide)) (h.2 130 (by decide))) ((h.1 6 (by decide) (by decide)).trans hs)
theorem past_push {D E : Nat → Nat → Int32} {P : List (Nat → Int32)} {T : Nat → Int32} {g : Nat → Int32} (hP : PastM D P) (hM : MT D 125 T) (hl : P.length < 20) (h0 : E 124 3 = nI (P.length + 1)) (hE : E 127 = fb_put (D 127) (fun x => D 125 (0 + x)) (126 * P.length) 126) : PastM E (tk T P) := by
  have e : tk T P = T :: P := by unfold tk; exact List.take_of_length_le (by simp; omega)
  rw [e]
  refine ⟨h0, by simp; omega, fun j U hj x hx => ?_⟩
  rw [hE]
  show fb_put _ _ _ _ (126 * (P.length + 1 - 1 - j) + x) = _
  cases j with
  | zero =>
    have : U = T := by simpa using hj.symm
    subst this
    rw [fb_put_in (by omega) (by omega), Nat.zero_add, show 126 * (P.length + 1 - 1 - 0) + x - 126 * P.length = x by omega]
    exact hM x hx
  | succ k =>
    have hj2 : P[k]? = some U := by simpa using hj
    have hk := (List.getElem?_eq_some_iff.mp hj2).1
    rw [fb_put_out (by omega), show P.length + 1 - 1 - (k + 1) = P.length - 1 - k by omega]
    exact hP.2.2 k U hj2 x hx
theorem past_full {D E : Nat → Nat → Int32} {P : List (Nat → Int32)} {T : Nat → Int32} (hP : PastM D P) (hM : MT D 125 T) (hl : P.length = 20) (h0 : E 124 3 = nI 20) (hE : E 127 = fb_put (fa_fill (fun x => D 127 (x + 126)) (D 127) 2394) (fun x => D 125 (0 + x)) 2394 126) : PastM E (tk T P) := by
  have e : tk T P = T :: P.take 19 := by unfold tk; rfl
  have el : (T :: P.take 19).length = 20 := by simp; omega
  rw [e]
  refine ⟨by rw [el]; exact h0, by omega, fun j U hj x hx => ?_⟩
  rw [hE, el]
  cases j with
  | zero =>
    have : U = T := by simpa using hj.symm
    subst this
    rw [fb_put_in (by omega) (by omega), Nat.zero_add, show 126 * (20 - 1 - 0) + x - 2394 = x by omega]
    exact hM x hx
  | succ k =>
    have hj2 : (P.take 19)[k]? = some U := by simpa using hj
    have hk := (List.getElem?_eq_some_iff.mp hj2).1
    rw [List.length_take] at hk
    rw [List.getElem?_take_of_lt (by omega)] at hj2
    have h9 := hP.2.2 k U hj2 x hx
    rw [hl] at h9
    rw [fb_put_out (by omega), fa_fill_in (by omega), ← h9]
    congr 1
    omega
set_option maxHeartbeats 4000000 in
set_option maxRecDepth 100000 in
theorem m_notes (D : Nat → Nat → Int32) (J : Nat → Nat → Int64) (T : Nat → Int32) (P : List (Nat → Int32)) (hM : MT D 125 T) (hP : PastM D P) : FD yX7_notes cX7_notes 2 none 1 [.ref 124] D J (fun res D' J' => res = none ∧ J' = J ∧ PastM D' (tk T P) ∧ (∀ x, x ≠ 3 → D' 124 x = D 124 x) ∧ ∀ c, c ≠ 124 → c ≠ 127 → D' c = D c) := by
  refine FD.of (by decide) rfl (Nat.le_of_ble_eq_true rfl) (fun Post hPost => ?_)
  show FV _ _ _ _ _ _ _ _ _ _ _ _ [_, _] [] _
  have hl20 := hP.2.1
  have tail : ∀ (u : Nat) (l1 : Option Value), ((P.length < 20 ∧ u = P.length) ∨ (P.length = 20 ∧ u = 19)) → ∀ E : Nat → Nat → Int32, E 124 3 = nI u → (∀ x, x ≠ 3 → E 124 x = D 124 x) → (∀ c, c ≠ 124 → c ≠ 127 → E c = D c) → ((P.length < 20 → E 127 = D 127) ∧ (P.length = 20 → E 127 = fa_fill (fun x => D 127 (x + 126)) (D 127) 2394)) → FV cX7_notes 2 none yX7_notes.cls yX7_notes.name 1 0 0 Post 0 0 49 [some (.ref 124), l1] [] (lay E J) := by
    intro u l1 hcase E hu h124 hf hE7
    have hu20 : u < 20 := by omega
    refine fv_aload_n (q := 50) dX7_notes_49 rfl rfl ?_
    refine fl_getR (q := 53) dX7_notes_50 fX7_7 sh124 rfl rfl ?_
    refine fv_iconst (v := 0) (q := 54) dX7_notes_53 (by decide) rfl ?_
    refine fv_aload_n (q := 55) dX7_notes_54 rfl rfl ?_
    refine fl_getR (q := 58) dX7_notes_55 fX7_16 sh124 rfl rfl ?_
    refine fv_bipush (v := 126) (q := 60) dX7_notes_58 (by decide) rfl ?_
    refine fv_aload_n (q := 61) dX7_notes_60 rfl rfl ?_
    refine fl_getI (q := 64) dX7_notes_61 fX7_154 sh124 rfl rfl ?_
    refine fv_top (y := nI u) hu ?_
    refine fv_imul (q := 65) dX7_notes_64 rfl ?_
    refine fv_top (nI_mulc 126 u) ?_
    refine fl_callS (As := [_, _, _, _]) (q := 68) dX7_notes_65 gX7_158 rfl rfl (Nat.le_of_ble_eq_true rfl) rfl (by decide) (m_copies 125 127 126 2520 0 (126 * u) sh125 sh127 (by decide) (by decide) (by decide) (by omega) (by decide) E J) (fun res D1 J1 hp => ?_)
    obtain ⟨rfl, rfl, hc, hf2⟩ := hp
    refine fv_aload_n (q := 69) dX7_notes_68 rfl rfl ?_
    refine fv_dup (q := 70) dX7_notes_69 rfl rfl ?_
    refine fl_getI (q := 73) dX7_notes_70 fX7_154 sh124 rfl rfl ?_
    refine fv_top (y := nI u) (by rw [hf2 124 (by decide)]; exact hu) ?_
    refine fv_iconst (v := 1) (q := 74) dX7_notes_73 (by decide) rfl ?_
    refine fv_iadd (q := 75) dX7_notes_74 rfl ?_
    refine fv_top (nI_1 _) ?_
    refine fl_putI (q := 78) dX7_notes_75 fX7_154 sh124 rfl rfl rfl rfl ?_
    refine fv_vret dX7_notes_78 rfl rfl (Nat.le_refl _) ?_
    refine hPost _ _ _ ⟨rfl, rfl, ?_, ?_, ?_⟩
    · rcases hcase with ⟨hl, rfl⟩ | ⟨hl, rfl⟩
      · refine past_push (g := fun _ => 0) hP hM hl (by rw [up_s, pk_us]) ?_
        rw [up_n _ _ _ (by decide), hc, hE7.1 (by omega), hf 125 (by decide) (by decide)]
      · refine past_full hP hM hl (by rw [up_s, pk_us]) ?_
        rw [up_n _ _ _ (by decide), hc, hE7.2 hl, hf 125 (by decide) (by decide)]
    · intro x hx; rw [up_s, pk_un hx, hf2 124 (by decide)]; exact h124 x hx
    · intro c g1 g2; rw [up_n _ _ _ g1, hf2 c g2]; exact hf c g1 g2
  have loop : P.length = 20 → ∀ i, i ≤ 2394 → ∀ E : Nat → Nat → Int32, E 127 = fa_fill (fun x => D 127 (x + 126)) (D 127) i → (∀ c, c ≠ 127 → E c = D c) → FV cX7_notes 2 none yX7_notes.cls yX7_notes.name 1 0 0 Post 0 0 11 [some (.ref 124), some (.int (nI i))] [] (lay E J) := by
    intro hl
    refine up_ind (fun i hi ih => ?_)
    intro E hE hf
    refine fv_iload_n (q := 12) dX7_notes_11 rfl rfl ?_
    refine fv_sipush (v := 2394) (q := 15) dX7_notes_12 (by decide) rfl ?_
    refine fv_icmp_ge (q := 18) 39 dX7_notes_15 (by decide) rfl (fun c15 => ?_) (fun c15 => ?_)
    · rw [show (2394 : Int32) = nI 2394 from rfl, nI_leI (by omega) (by omega)] at c15
      have hin : i = 2394 := by omega
      subst hin
      refine fv_aload_n (q := 40) dX7_notes_39 rfl rfl ?_
      refine fv_dup (q := 41) dX7_notes_40 rfl rfl ?_
      refine fl_getI (q := 44) dX7_notes_41 fX7_154 sh124 rfl rfl ?_
      refine fv_top (y := nI 20) (by rw [hf 124 (by decide), hP.1, hl]) ?_
      refine fv_iconst (v := 1) (q := 45) dX7_notes_44 (by decide) rfl ?_
      refine fv_isub (q := 46) dX7_notes_45 rfl ?_
      refine fl_putI (q := 49) dX7_notes_46 fX7_154 sh124 rfl rfl rfl rfl ?_
      refine tail 19 _ (Or.inr ⟨hl, rfl⟩) _ ?_ ?_ ?_ ?_
      · rw [up_s, pk_us]; rfl
      · intro x hx; rw [up_s, pk_un hx, hf 124 (by decide)]
      · intro c g1 g2; rw [up_n _ _ _ g1]; exact hf c g2
      · rw [up_n _ _ _ (by decide)]; exact ⟨fun h => by omega, fun _ => hE⟩
    · rw [show (2394 : Int32) = nI 2394 from rfl, nI_leI (by omega) (by omega)] at c15
      refine fv_aload_n (q := 19) dX7_notes_18 rfl rfl ?_
      refine fl_getR (q := 22) dX7_notes_19 fX7_16 sh124 rfl rfl ?_
      refine fv_iload_n (q := 23) dX7_notes_22 rfl rfl ?_
      refine fv_aload_n (q := 24) dX7_notes_23 rfl rfl ?_
      refine fl_getR (q := 27) dX7_notes_24 fX7_16 sh124 rfl rfl ?_
      refine fv_iload_n (q := 28) dX7_notes_27 rfl rfl ?_
      refine fv_bipush (v := 126) (q := 30) dX7_notes_28 (by decide) rfl ?_
      refine fv_iadd (q := 31) dX7_notes_30 rfl ?_
      refine fv_top (nI_add i 126) ?_
      refine fl_iald (q := 32) (i + 126) dX7_notes_31 sh127 (by decide) rfl (by omega) rfl ?_
      refine fv_top (y := D 127 (i + 126)) (by rw [hE, fa_fill_out (by omega)]) ?_
      refine fl_iast (q := 33) i dX7_notes_32 sh127 (by decide) rfl (by omega) rfl ?_
      refine fv_iinc (v := _ + 1) (q := 36) (l' := [_, _]) dX7_notes_33 rfl rfl (by decide) rfl rfl rfl ?_
      refine fv_goto 11 dX7_notes_36 (by decide) ?_
      rw [nI_1]
      refine ih (by omega) _ ?_ (fun c hc => by rw [up_n _ _ _ hc]; exact hf c hc)
      rw [up_s, hE]
      exact fa_fill_succ _ _ i
  refine fv_aload_n (q := 1) dX7_notes_0 rfl rfl ?_
  refine fl_getI (q := 4) dX7_notes_1 fX7_154 sh124 rfl rfl ?_
  refine fv_top (y := nI P.length) hP.1 ?_
  refine fv_bipush (v := 20) (q := 6) dX7_notes_4 (by decide) rfl ?_
  refine fv_icmp_ne (q := 9) 49 dX7_notes_6 (by decide) rfl (fun c6 => ?_) (fun c6 => ?_)
  · rw [show (20 : Int32) = nI 20 from rfl, nI_eq (by omega) (by omega)] at c6
    exact tail P.length _ (Or.inl ⟨by omega, rfl⟩) D hP.1 (fun _ _ => rfl) (fun _ _ _ => rfl) ⟨fun _ => rfl, fun h => by omega⟩
  · rw [show (20 : Int32) = nI 20 from rfl, nI_eq (by omega) (by omega)] at c6
    refine fv_iconst (v := 0) (q := 10) dX7_notes_9 (by decide) rfl ?_
    refine fv_istore_n (i := 1) (q := 11) (l' := [_, _]) dX7_notes_10 rfl (by decide) rfl rfl rfl ?_
    exact loop c6 0 (Nat.zero_le _) D (fa_fill_0 _ _).symm (fun _ _ => rfl)
theorem KD.nt {D E : Nat → Nat → Int32} (h : ∀ x, x ≠ 3 → E 124 x = D 124 x) (h2 : ∀ c, c ≠ 124 → c ≠ 127 → E c = D c) : KD D E := ⟨fun x _ g => h x g, fun c hc => h2 c (by omega) (by omega)⟩
theorem add_m {T f : Nat → Int32} {n : Nat} {p k w : Int32} (h : ∀ x, x < 126 → f x = T x) : ∀ x, x < 126 → upd (upd (upd (upd f (6 + n) p) (46 + n) k) (86 + n) w) 0 (nI (n + 1)) x = addT T n p k w x := by
  intro x hx
  unfold addT
  by_cases a : x = 0
  · subst a; rw [pk_us, if_pos rfl]
  · rw [pk_un a, if_neg a]
    by_cases b : x = 6 + n
    · subst b; rw [if_pos rfl, pk_un (by omega), pk_un (by omega), pk_us]
    · rw [if_neg b]
      by_cases c : x = 46 + n
      · subst c; rw [if_pos rfl, pk_un (by omega), pk_us]
      · rw [if_neg c]
        by_cases d : x = 86 + n
        · subst d; rw [if_pos rfl, pk_us]
        · rw [if_neg d, pk_un d, pk_un c, pk_un b]; exact h x hx
set_option maxHeartbeats 4000000 in
set_option maxRecDepth 100000 in
theorem m_puts (D : Nat → Nat → Int32) (J : Nat → Nat → Int64) (T : Nat → Int32) (n : Nat) (P : List (Nat → Int32)) (hM : MT D 125 T) (hn : T 0 = nI n) (h40 : n < 40) (hP : PastM D P) (p k w : Int32) : FD yX7_puts cX7_puts 5 none 2 [.ref 124, .int p, .int k, .int w] D J (fun res D' J' => res = none ∧ J' = J ∧ MT D' 125 (addT T n p k w) ∧ PastM D' (tk T P) ∧ KD D D') := by
  refine FD.of (by decide) rfl (Nat.le_of_ble_eq_true rfl) (fun Post hPost => ?_)
  show FV _ _ _ _ _ _ _ _ _ _ _ _ [_, _, _, _, _] [] _
  refine fv_aload_n (q := 1) dX7_puts_0 rfl rfl ?_
  refine fl_callV (As := []) (q := 4) dX7_puts_1 gX7_170 rfl sh124 rfl rfl (Nat.le_of_ble_eq_true rfl) rfl (by decide) (m_notes D _ T P hM hP) (fun res D1 J1 hp => ?_)
  obtain ⟨rfl, rfl, hPn, hn1, hn2⟩ := hp
  have hD1 := KD.nt hn1 hn2
  have hM1 : MT D1 125 T := by unfold MT; rw [hn2 125 (by decide) (by decide)]; exact hM
  refine fv_aload_n (q := 5) dX7_puts_4 rfl rfl ?_
  refine fl_getR (q := 8) dX7_puts_5 fX7_7 sh124 rfl rfl ?_
  refine fv_iconst (v := 0) (q := 9) dX7_puts_8 (by decide) rfl ?_
  refine fl_iald (q := 10) 0 dX7_puts_9 sh125 (by decide) rfl (by decide) rfl ?_
  refine fv_top (y := nI n) ((hM1 0 (by decide)).trans hn) ?_
  refine fv_istore (q := 12) (l' := [_, _, _, _, _]) dX7_puts_10 (by decide) rfl rfl rfl ?_
  refine fv_aload_n (q := 13) dX7_puts_12 rfl rfl ?_
  refine fl_getR (q := 16) dX7_puts_13 fX7_7 sh124 rfl rfl ?_
  refine fv_bipush (v := 6) (q := 18) dX7_puts_16 (by decide) rfl ?_
  refine fv_iload (q := 20) dX7_puts_18 rfl rfl ?_
  refine fv_iadd (q := 21) dX7_puts_20 rfl ?_
  refine fv_iload_n (q := 22) dX7_puts_21 rfl rfl ?_
  refine fl_iast (q := 23) (6 + n) dX7_puts_22 sh125 (by decide) (nI_add 6 n) (by omega) rfl ?_
  refine fv_aload_n (q := 24) dX7_puts_23 rfl rfl ?_
  refine fl_getR (q := 27) dX7_puts_24 fX7_7 sh124 rfl rfl ?_
  refine fv_bipush (v := 46) (q := 29) dX7_puts_27 (by decide) rfl ?_
  refine fv_iload (q := 31) dX7_puts_29 rfl rfl ?_
  refine fv_iadd (q := 32) dX7_puts_31 rfl ?_
  refine fv_iload_n (q := 33) dX7_puts_32 rfl rfl ?_
  refine fl_iast (q := 34) (46 + n) dX7_puts_33 sh125 (by decide) (nI_add 46 n) (by omega) rfl ?_
  refine fv_aload_n (q := 35) dX7_puts_34 rfl rfl ?_
  refine fl_getR (q := 38) dX7_puts_35 fX7_7 sh124 rfl rfl ?_
  refine fv_bipush (v := 86) (q := 40) dX7_puts_38 (by decide) rfl ?_
  refine fv_iload (q := 42) dX7_puts_40 rfl rfl ?_
  refine fv_iadd (q := 43) dX7_puts_42 rfl ?_
  refine fv_iload_n (q := 44) dX7_puts_43 rfl rfl ?_
  refine fl_iast (q := 45) (86 + n) dX7_puts_44 sh125 (by decide) (nI_add 86 n) (by omega) rfl ?_
  refine fv_aload_n (q := 46) dX7_puts_45 rfl rfl ?_
  refine fl_getR (q := 49) dX7_puts_46 fX7_7 sh124 rfl rfl ?_
  refine fv_iconst (v := 0) (q := 50) dX7_puts_49 (by decide) rfl ?_
  refine fv_dup2 (q := 51) dX7_puts_50 rfl rfl rfl ?_
  refine fl_iald (q := 52) 0 dX7_puts_51 sh125 (by decide) rfl (by decide) rfl ?_
  refine fv_top (y := nI n) (by rw [up_s, pk_un (by omega), up_s, pk_un (by omega), up_s, pk_un (by omega)]; exact (hM1 0 (by decide)).trans hn) ?_
  refine fv_iconst (v := 1) (q := 53) dX7_puts_52 (by decide) rfl ?_
  refine fv_iadd (q := 54) dX7_puts_53 rfl ?_
  refine fv_top (nI_1 _) ?_
  refine fl_iast (q := 55) 0 dX7_puts_54 sh125 (by decide) rfl (by decide) rfl ?_
  refine fv_vret dX7_puts_55 rfl rfl (Nat.le_refl _) ?_
  refine hPost _ _ _ ⟨rfl, rfl, ?_, hPn.of rfl rfl, hD1.tr ((((KD.rf D1).ua (Or.inl (by decide))).ua (Or.inl (by decide))).ua (Or.inl (by decide)) |>.ua (Or.inl (by decide)))⟩
  unfold MT
  rw [up_s, up_s, up_s, up_s]
  exact add_m hM1
set_option maxHeartbeats 4000000 in
set_option maxRecDepth 100000 in
theorem m_isKey (D : Nat → Nat → Int32) (J : Nat → Nat → Int64) (k : Int32) : FI yX7_isKey cX7_isKey 1 (some .boolean) 1 [.int k] D J (bi (isKeyB k)) := by
  refine FI.of (by decide) rfl (Nat.le_of_ble_eq_true rfl) (fun Post hPost => ?_)
  show FV _ _ _ _ _ _ _ _ _ _ _ _ [_] [] _
  refine fv_iload_n (q := 1) dX7_isKey_0 rfl rfl ?_
  refine fv_ldc (q := 3) dX7_isKey_1 kX7_66 rfl ?_
  refine fv_icmp_eq (q := 6) 17 dX7_isKey_3 (by decide) rfl (fun c3 => ?_) (fun c3 => ?_)
  · refine fv_iconst (v := 1) (q := 18) dX7_isKey_17 (by decide) rfl ?_
    refine fv_goto 22 dX7_isKey_18 (by decide) ?_
    refine fv_zret dX7_isKey_22 rfl (by decide) rfl (Nat.le_refl _) ?_
    exact fi_r hPost (by unfold isKeyB bi; rw [if_pos (by rw [decide_eq_true c3, Bool.true_or])])
  · refine fv_iload_n (q := 7) dX7_isKey_6 rfl rfl ?_
    refine fv_bipush (v := (-99)) (q := 9) dX7_isKey_7 (by decide) rfl ?_
    refine fv_bipush (v := 99) (q := 11) dX7_isKey_9 (by decide) rfl ?_
    refine fl_callSi (As := [_, _, _]) (q := 14) dX7_isKey_11 gX7_120 rfl rfl (Nat.le_of_ble_eq_true rfl) rfl (by decide) (m_in D J k (-99) 99) ?_
    refine fv_if_eq (q := 17) 21 dX7_isKey_14 (by decide) rfl (fun c14 => ?_) (fun c14 => ?_)
    · rw [bi_0] at c14
      refine fv_iconst (v := 0) (q := 22) dX7_isKey_21 (by decide) rfl ?_
      refine fv_zret dX7_isKey_22 rfl (by decide) rfl (Nat.le_refl _) ?_
      exact fi_r hPost (by unfold isKeyB bi; rw [if_neg (by rw [decide_eq_false c3, Bool.false_or, c14]; decide)])
    · rw [bi_n'] at c14
      refine fv_iconst (v := 1) (q := 18) dX7_isKey_17 (by decide) rfl ?_
      refine fv_goto 22 dX7_isKey_18 (by decide) ?_
      refine fv_zret dX7_isKey_22 rfl (by decide) rfl (Nat.le_refl _) ?_
      exact fi_r hPost (by unfold isKeyB bi; rw [if_pos (by rw [c14, Bool.or_true])])
set_option maxHeartbeats 4000000 in
set_option maxRecDepth 100000 in
theorem m_isWorth (D : Nat → Nat → Int32) (J : Nat → Nat → Int64) (k : Int32) : FI yX7_isWorth cX7_isWorth 1 (some .boolean) 1 [.int k] D J (bi (isWorB k)) := by
  refine FI.of (by decide) rfl (Nat.le_of_ble_eq_true rfl) (fun Post hPost => ?_)
  show FV _ _ _ _ _ _ _ _ _ _ _ _ [_] [] _
  refine fv_iload_n (q := 1) dX7_isWorth_0 rfl rfl ?_
  refine fv_ldc (q := 3) dX7_isWorth_1 kX7_66 rfl ?_
  refine fv_icmp_eq (q := 6) 19 dX7_isWorth_3 (by decide) rfl (fun c3 => ?_) (fun c3 => ?_)
  · refine fv_iconst (v := 1) (q := 20) dX7_isWorth_19 (by decide) rfl ?_
    refine fv_goto 24 dX7_isWorth_20 (by decide) ?_
    refine fv_zret dX7_isWorth_24 rfl (by decide) rfl (Nat.le_refl _) ?_
    exact fi_r hPost (by unfold isWorB bi; rw [if_pos (by rw [decide_eq_true c3, Bool.true_or])])
  · refine fv_iload_n (q := 7) dX7_isWorth_6 rfl rfl ?_
    refine fv_sipush (v := (-999)) (q := 10) dX7_isWorth_7 (by decide) rfl ?_
    refine fv_sipush (v := 999) (q := 13) dX7_isWorth_10 (by decide) rfl ?_
    refine fl_callSi (As := [_, _, _]) (q := 16) dX7_isWorth_13 gX7_120 rfl rfl (Nat.le_of_ble_eq_true rfl) rfl (by decide) (m_in D J k (-999) 999) ?_
    refine fv_if_eq (q := 19) 23 dX7_isWorth_16 (by decide) rfl (fun c16 => ?_) (fun c16 => ?_)
    · rw [bi_0] at c16
      refine fv_iconst (v := 0) (q := 24) dX7_isWorth_23 (by decide) rfl ?_
      refine fv_zret dX7_isWorth_24 rfl (by decide) rfl (Nat.le_refl _) ?_
      exact fi_r hPost (by unfold isWorB bi; rw [if_neg (by rw [decide_eq_false c3, Bool.false_or, c16]; decide)])
    · rw [bi_n'] at c16
      refine fv_iconst (v := 1) (q := 20) dX7_isWorth_19 (by decide) rfl ?_
      refine fv_goto 24 dX7_isWorth_20 (by decide) ?_
      refine fv_zret dX7_isWorth_24 rfl (by decide) rfl (Nat.le_refl _) ?_
      exact fi_r hPost (by unfold isWorB bi; rw [if_pos (by rw [c16, Bool.or_true])])
set_option maxHeartbeats 4000000 in
set_option maxRecDepth 100000 in
theorem m_isBound (D : Nat → Nat → Int32) (J : Nat → Nat → Int64) (k : Int32) : FI yX7_isBound cX7_isBound 1 (some .boolean) 1 [.int k] D J (bi (isBndB k)) := by
  refine FI.of (by decide) rfl (Nat.le_of_ble_eq_true rfl) (fun Post hPost => ?_)
  show FV _ _ _ _ _ _ _ _ _ _ _ _ [_] [] _
  refine fv_iload_n (q := 1) dX7_isBound_0 rfl rfl ?_
  refine fv_bipush (v := 99) (q := 3) dX7_isBound_1 (by decide) rfl ?_
  refine fv_icmp_eq (q := 6) 17 dX7_isBound_3 (by decide) rfl (fun c3 => ?_) (fun c3 => ?_)
  · refine fv_iconst (v := 1) (q := 18) dX7_isBound_17 (by decide) rfl ?_
    refine fv_goto 22 dX7_isBound_18 (by decide) ?_
    refine fv_zret dX7_isBound_22 rfl (by decide) rfl (Nat.le_refl _) ?_
    exact fi_r hPost (by unfold isBndB bi; rw [if_pos (by rw [decide_eq_true c3, Bool.true_or])])
  · refine fv_iload_n (q := 7) dX7_isBound_6 rfl rfl ?_
    refine fv_bipush (v := (-20)) (q := 9) dX7_isBound_7 (by decide) rfl ?_
    refine fv_bipush (v := 20) (q := 11) dX7_isBound_9 (by decide) rfl ?_
    refine fl_callSi (As := [_, _, _]) (q := 14) dX7_isBound_11 gX7_120 rfl rfl (Nat.le_of_ble_eq_true rfl) rfl (by decide) (m_in D J k (-20) 20) ?_
    refine fv_if_eq (q := 17) 21 dX7_isBound_14 (by decide) rfl (fun c14 => ?_) (fun c14 => ?_)
    · rw [bi_0] at c14
      refine fv_iconst (v := 0) (q := 22) dX7_isBound_21 (by decide) rfl ?_
      refine fv_zret dX7_isBound_22 rfl (by decide) rfl (Nat.le_refl _) ?_
      exact fi_r hPost (by unfold isBndB bi; rw [if_neg (by rw [decide_eq_false c3, Bool.false_or, c14]; decide)])
    · rw [bi_n'] at c14
      refine fv_iconst (v := 1) (q := 18) dX7_isBound_17 (by decide) rfl ?_
      refine fv_goto 22 dX7_isBound_18 (by decide) ?_
      refine fv_zret dX7_isBound_22 rfl (by decide) rfl (Nat.le_refl _) ?_
      exact fi_r hPost (by unfold isBndB bi; rw [if_pos (by rw [c14, Bool.or_true])])
set_option maxHeartbeats 4000000 in
set_option maxRecDepth 100000 in
theorem m_put (D : Nat → Nat → Int32) (J : Nat → Nat → Int64) (σ : Sg) (hX : MR D σ) (ok : SgOk σ) (p k w : Int32) : FD yX7_put cX7_put 4 (some .int) 3 [.ref 124, .int p, .int k, .int w] D J (fun res D' J' => res = some (.int (f_put σ p k w).1) ∧ MR D' (f_put σ p k w).2 ∧ KM D D' J J') := by
  refine FD.of (by decide) rfl (Nat.le_of_ble_eq_true rfl) (fun Post hPost => ?_)
  show FV _ _ _ _ _ _ _ _ _ _ _ _ [_, _, _, _] [] _
  obtain ⟨T, n, P, I, B, s⟩ := σ
  have hM : MT D 125 T := hX.1
  have hP : PastM D P := hX.2.1
  have hI : ImgM D I := hX.2.2.1
  have hB : BookM D B := hX.2.2.2.1
  have hs : D 124 6 = s := hX.2.2.2.2
  have v : VT T n := ok.1
  have h40 := v.2.1
  have hpf : ∀ h : (wth p 0 5 && isKeyB k && isWorB w) = false, f_put (T, n, P, I, B, s) p k w = (-1000000002, (T, n, P, I, B, s)) := fun h => by unfold f_put; rw [if_pos h]
  refine fv_iload_n (q := 1) dX7_put_0 rfl rfl ?_
  refine fv_iconst (v := 0) (q := 2) dX7_put_1 (by decide) rfl ?_
  refine fv_iconst (v := 5) (q := 3) dX7_put_2 (by decide) rfl ?_
  refine fl_callSi (As := [_, _, _]) (q := 6) dX7_put_3 gX7_120 rfl rfl (Nat.le_of_ble_eq_true rfl) rfl (by decide) (m_in D J p 0 5) ?_
  refine fv_if_eq (q := 9) 23 dX7_put_6 (by decide) rfl (fun c6 => ?_) (fun c6 => ?_)
  · rw [bi_0] at c6
    refine fv_ldc (q := 25) dX7_put_23 kX7_157 rfl ?_
    refine fv_iret dX7_put_25 rfl rfl (Nat.le_refl _) ?_
    rw [hpf (by rw [c6]; rfl)] at hPost
    exact hPost _ _ _ ⟨rfl, hX, KM.rf⟩
  · rw [bi_n'] at c6
    refine fv_iload_n (q := 10) dX7_put_9 rfl rfl ?_
    refine fl_callSi (As := [_]) (q := 13) dX7_put_10 gX7_173 rfl rfl (Nat.le_of_ble_eq_true rfl) rfl (by decide) (m_isKey D J k) ?_
    refine fv_if_eq (q := 16) 23 dX7_put_13 (by decide) rfl (fun c13 => ?_) (fun c13 => ?_)
    · rw [bi_0] at c13
      refine fv_ldc (q := 25) dX7_put_23 kX7_157 rfl ?_
      refine fv_iret dX7_put_25 rfl rfl (Nat.le_refl _) ?_
      rw [hpf (by rw [c13, Bool.and_false]; rfl)] at hPost
      exact hPost _ _ _ ⟨rfl, hX, KM.rf⟩
    · rw [bi_n'] at c13
      refine fv_iload_n (q := 17) dX7_put_16 rfl rfl ?_
      refine fl_callSi (As := [_]) (q := 20) dX7_put_17 gX7_176 rfl rfl (Nat.le_of_ble_eq_true rfl) rfl (by decide) (m_isWorth D J w) ?_
      refine fv_if_ne (q := 23) 26 dX7_put_20 (by decide) rfl (fun c20 => ?_) (fun c20 => ?_)
      · rw [bi_n'] at c20
        refine fv_aload_n (q := 27) dX7_put_26 rfl rfl ?_
        refine fl_getR (q := 30) dX7_put_27 fX7_7 sh124 rfl rfl ?_
        refine fv_iconst (v := 0) (q := 31) dX7_put_30 (by decide) rfl ?_
        refine fl_iald (q := 32) 0 dX7_put_31 sh125 (by decide) rfl (by decide) rfl ?_
        refine fv_top (y := nI n) ((hM 0 (by decide)).trans v.1) ?_
        refine fv_bipush (v := 40) (q := 34) dX7_put_32 (by decide) rfl ?_
        refine fv_icmp_ne (q := 37) 40 dX7_put_34 (by decide) rfl (fun c34 => ?_) (fun c34 => ?_)
        · rw [show (40 : Int32) = nI 40 from rfl, nI_eq (by omega) (by omega)] at c34
          refine fv_aload_n (q := 41) dX7_put_40 rfl rfl ?_
          refine fv_iload_n (q := 42) dX7_put_41 rfl rfl ?_
          refine fv_iload_n (q := 43) dX7_put_42 rfl rfl ?_
          refine fv_iload_n (q := 44) dX7_put_43 rfl rfl ?_
          refine fl_callV (As := [_, _, _]) (q := 47) dX7_put_44 gX7_180 rfl sh124 rfl rfl (Nat.le_of_ble_eq_true rfl) rfl (by decide) (m_puts D J T n P hM v.1 (by omega) hP p k w) (fun res D1 J1 hp => ?_)
          obtain ⟨rfl, rfl, hM2, hP2, hK⟩ := hp
          refine fv_aload_n (q := 48) dX7_put_47 rfl rfl ?_
          refine fl_getR (q := 51) dX7_put_48 fX7_7 sh124 rfl rfl ?_
          refine fv_iconst (v := 0) (q := 52) dX7_put_51 (by decide) rfl ?_
          refine fl_iald (q := 53) 0 dX7_put_52 sh125 (by decide) rfl (by decide) rfl ?_
          refine fv_top (y := nI (n + 1)) (hM2 0 (by decide)) ?_
          refine fv_iconst (v := 1) (q := 54) dX7_put_53 (by decide) rfl ?_
          refine fv_isub (q := 55) dX7_put_54 rfl ?_
          refine fv_top (nI_pred n) ?_
          refine fv_iret dX7_put_55 rfl rfl (Nat.le_refl _) ?_
          have e9 : f_put (T, n, P, I, B, s) p k w = (nI n, (addT T n p k w, n + 1, tk T P, I, B, s)) := by unfold f_put; rw [if_neg (by rw [c6, c13, c20]; decide), if_neg (by show ¬ 40 ≤ n; omega)]
          rw [e9] at hPost
          exact hPost _ _ _ ⟨rfl, hK.mr hI hB hs hM2 hP2, hK.km⟩
        · rw [show (40 : Int32) = nI 40 from rfl, nI_eq (by omega) (by omega)] at c34
          refine fv_ldc (q := 39) dX7_put_37 kX7_179 rfl ?_
          refine fv_iret dX7_put_39 rfl rfl (Nat.le_refl _) ?_
          have e9 : f_put (T, n, P, I, B, s) p k w = (-1000000004, (T, n, P, I, B, s)) := by unfold f_put; rw [if_neg (by rw [c6, c13, c20]; decide), if_pos (by show 40 ≤ n; omega)]
          rw [e9] at hPost
          exact hPost _ _ _ ⟨rfl, hX, KM.rf⟩
      · rw [bi_0] at c20
        refine fv_ldc (q := 25) dX7_put_23 kX7_157 rfl ?_
        refine fv_iret dX7_put_25 rfl rfl (Nat.le_refl _) ?_
        rw [hpf (by rw [c20, Bool.and_false])] at hPost
        exact hPost _ _ _ ⟨rfl, hX, KM.rf⟩
set_option maxHeartbeats 4000000 in
set_option maxRecDepth 100000 in
theorem m_take (D : Nat → Nat → Int32) (J : Nat → Nat → Int64) (σ : Sg) (hX : MR D σ) (ok : SgOk σ) (r : Int32) : FD yX7_take cX7_take 2 (some .int) 2 [.ref 124, .int r] D J (fun res D' J' => res = some (.int (f_take σ r).1) ∧ MR D' (f_take σ r).2 ∧ KM D D' J J') := by
  refine FD.of (by decide) rfl (Nat.le_of_ble_eq_true rfl) (fun Post hPost => ?_)
  show FV _ _ _ _ _ _ _ _ _ _ _ _ [_, _] [] _
  obtain ⟨T, n, P, I, B, s⟩ := σ
  have hM : MT D 125 T := hX.1
  have hP : PastM D P := hX.2.1
  have hI : ImgM D I := hX.2.2.1
  have hB : BookM D B := hX.2.2.2.1
  have hs : D 124 6 = s := hX.2.2.2.2
  have v : VT T n := ok.1
  have h40 := v.2.1
  refine fv_aload_n (q := 1) dX7_take_0 rfl rfl ?_
  refine fv_iload_n (q := 2) dX7_take_1 rfl rfl ?_
  refine fl_callVi (As := [_]) (q := 5) dX7_take_2 gX7_131 rfl sh124 rfl rfl (Nat.le_of_ble_eq_true rfl) rfl (by decide) (m_isRow D J T n hM v r) ?_
  refine fv_if_ne (q := 8) 11 dX7_take_5 (by decide) rfl (fun c5 => ?_) (fun c5 => ?_)
  · rw [bi_n'] at c5
    obtain ⟨j, hj, hrj, hjc⟩ := okr_t c5 h40
    subst hrj
    refine fv_aload_n (q := 12) dX7_take_11 rfl rfl ?_
    refine fl_callV (As := []) (q := 15) dX7_take_12 gX7_170 rfl sh124 rfl rfl (Nat.le_of_ble_eq_true rfl) rfl (by decide) (m_notes D _ T P hM hP) (fun res D1 J1 hp => ?_)
    obtain ⟨rfl, rfl, hPn, hn1, hn2⟩ := hp
    have hD1 := KD.nt hn1 hn2
    have hM1 : MT D1 125 T := by unfold MT; rw [hn2 125 (by decide) (by decide)]; exact hM
    refine fv_aload_n (q := 16) dX7_take_15 rfl rfl ?_
    refine fl_getR (q := 19) dX7_take_16 fX7_7 sh124 rfl rfl ?_
    refine fv_iload_n (q := 20) dX7_take_19 rfl rfl ?_
    refine fl_callS (As := [_, _]) (q := 23) dX7_take_20 gX7_162 rfl rfl (Nat.le_of_ble_eq_true rfl) rfl (by decide) (m_leaves 125 sh125 D1 _ T hM1 n v j hj) (fun res D2 J2 hp => ?_)
    obtain ⟨rfl, rfl, hM2, hf2⟩ := hp
    have hK := hD1.tr (KD.oth hf2 (Or.inl (by decide)))
    refine fv_aload_n (q := 24) dX7_take_23 rfl rfl ?_
    refine fl_getR (q := 27) dX7_take_24 fX7_7 sh124 rfl rfl ?_
    refine fv_iconst (v := 0) (q := 28) dX7_take_27 (by decide) rfl ?_
    refine fl_iald (q := 29) 0 dX7_take_28 sh125 (by decide) rfl (by decide) rfl ?_
    refine fv_top (y := nI (n - 1)) (hM2 0 (by decide)) ?_
    refine fv_iret dX7_take_29 rfl rfl (Nat.le_refl _) ?_
    have e9 : f_take (T, n, P, I, B, s) (nI j) = (nI (n - 1), (dropT T n j, n - 1, tk T P, I, B, s)) := by unfold f_take; rw [if_neg (by rw [c5]; decide), hjc]
    rw [e9] at hPost
    exact hPost _ _ _ ⟨rfl, hK.mr hI hB hs hM2 (hPn.of (by rw [hf2 124 (by decide)]) (hf2 127 (by decide))), hK.km⟩
  · rw [bi_0] at c5
    refine fv_ldc (q := 10) dX7_take_8 kX7_165 rfl ?_
    refine fv_iret dX7_take_10 rfl rfl (Nat.le_refl _) ?_
    have e9 : f_take (T, n, P, I, B, s) r = (-1000000001, (T, n, P, I, B, s)) := by unfold f_take; rw [if_pos c5]
    rw [e9] at hPost
    exact hPost _ _ _ ⟨rfl, hX, KM.rf⟩
