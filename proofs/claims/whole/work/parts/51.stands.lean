/-! the model: how rows stand -/
def mnl (p : Nat → Bool) (g : Nat → Nat) : Nat → Nat
  | 0 => 99
  | e + 1 => if p e then (if mnl p g e < g e then mnl p g e else g e) else mnl p g e
theorem mnl_t {p : Nat → Bool} {g : Nat → Nat} {e : Nat} (h : p e = true) : mnl p g (e + 1) = if mnl p g e < g e then mnl p g e else g e := by rw [mnl, if_pos h]
theorem mnl_f {p : Nat → Bool} {g : Nat → Nat} {e : Nat} (h : p e = false) : mnl p g (e + 1) = mnl p g e := by rw [mnl, if_neg (by rw [h]; decide)]
theorem ct_t {p : Nat → Bool} {e : Nat} (h : p e = true) : fb_ct p (e + 1) = fb_ct p e + 1 := by rw [fb_ct_succ, if_pos h]
theorem ct_f {p : Nat → Bool} {e : Nat} (h : p e = false) : fb_ct p (e + 1) = fb_ct p e := by rw [fb_ct_succ, if_neg (by rw [h]; decide)]; rfl
theorem mnl_le (p : Nat → Bool) (g : Nat → Nat) : ∀ e, mnl p g e ≤ 99
  | 0 => Nat.le_refl _
  | e + 1 => by
    have := mnl_le p g e
    show (if p e then (if mnl p g e < g e then mnl p g e else g e) else mnl p g e) ≤ 99
    split
    · split <;> omega
    · exact this
theorem mnl_b {p : Nat → Bool} {g : Nat → Nat} {m : Nat} (hm : m ≤ 99) : ∀ n, (∀ e, e < n → p e = true → m ≤ g e) → m ≤ mnl p g n ∧ ∀ e, e < n → p e = true → mnl p g n ≤ g e
  | 0, _ => ⟨hm, fun e he => absurd he (Nat.not_lt_zero _)⟩
  | n + 1, h => by
    obtain ⟨h1, h2⟩ := mnl_b hm n (fun e he => h e (by omega))
    show m ≤ (if p n then (if mnl p g n < g n then mnl p g n else g n) else mnl p g n) ∧ ∀ e, e < n + 1 → p e = true → (if p n then (if mnl p g n < g n then mnl p g n else g n) else mnl p g n) ≤ g e
    by_cases hp : p n = true
    · rw [if_pos hp]
      have h3 := h n (by omega) hp
      refine ⟨by split <;> omega, fun e he hpe => ?_⟩
      by_cases e9 : e = n
      · subst e9; split <;> omega
      · have := h2 e (by omega) hpe
        split <;> omega
    · rw [if_neg hp]
      refine ⟨h1, fun e he hpe => ?_⟩
      by_cases e9 : e = n
      · subst e9; exact absurd hpe hp
      · exact h2 e (by omega) hpe
theorem mnl_eq {p : Nat → Bool} {g : Nat → Nat} {m n x : Nat} (hm : m ≤ 99) (h : ∀ e, e < n → p e = true → m ≤ g e) (hx : x < n) (hp : p x = true) (hg : g x = m) : mnl p g n = m := by
  obtain ⟨h1, h2⟩ := mnl_b hm n h
  have := h2 x hx hp
  omega
theorem mnl_cl {T : Nat → Int32} {K : Nat → Int} {n r : Nat} (h40 : n ≤ 40) (hK : ∀ e r, e < n → r < n → bf T e r = true → K e ≤ K r) (hr : r < n) : mnl (fun e => decide (K e = K r)) (pos T n) n = cf K n r := by
  have h1 := cl_pos hK hr
  have h2 := cl_le (K := K) (n := n) (r := r)
  have hl : cf K n r < n := by omega
  refine mnl_eq (x := lin T n (cf K n r)) (by omega) (fun e he hp => ?_) (lin_lt hl) ?_ (pos_lin hl)
  · exact ((cl_iff hK he hr).mp (of_decide_eq_true hp)).1
  · exact decide_eq_true ((cl_lin hK hl hr).mpr ⟨Nat.le_refl _, by omega⟩)
/-- what is laid for a table -/
def I1 (T : Nat → Int32) (n r : Nat) (f g : Nat → Int32) : Prop := ∀ q, q < r → g q = nI (pos T n q) ∧ f (pos T n q) = nI q
theorem I1_s {T : Nat → Int32} {n r : Nat} {f g : Nat → Int32} (h : I1 T n r f g) (hr : r < n) : I1 T n (r + 1) (upd f (pos T n r) (nI r)) (upd g r (nI (pos T n r))) := by
  intro q hq
  by_cases e : q = r
  · subst e; rw [pk_us, pk_us]; exact ⟨rfl, rfl⟩
  · rw [pk_un e, pk_un (fun z => e (pos_inj (by omega) hr z))]; exact h q (by omega)
def I2 (T : Nat → Int32) (n r : Nat) (f1 f2 f3 f4 : Nat → Int32) : Prop := ∀ q, q < r → f1 q = nI (pf T n q) ∧ f2 q = nI (pm T n q) ∧ f3 q = nI (gf T n q) ∧ f4 q = nI (gm T n q)
theorem I2.of {T : Nat → Int32} {n r : Nat} {f1 f2 f3 f4 g1 g2 g3 g4 : Nat → Int32} (h : I2 T n r f1 f2 f3 f4) (h1 : ∀ q, q < r → g1 q = f1 q) (h2 : ∀ q, q < r → g2 q = f2 q) (h3 : ∀ q, q < r → g3 q = f3 q) (h4 : ∀ q, q < r → g4 q = f4 q) : I2 T n r g1 g2 g3 g4 := fun q hq => by rw [h1 q hq, h2 q hq, h3 q hq, h4 q hq]; exact h q hq
/-- row r, when e rows were seen -/
def R2 (T : Nat → Int32) (n r e : Nat) (f1 f2 f3 f4 : Nat → Int32) : Prop := f1 r = nI (mnl (fun e => decide (pz T e = pz T r)) (pos T n) e) ∧ f2 r = nI (fb_ct (fun e => decide (pz T e = pz T r)) e) ∧ f3 r = nI (mnl (fun e => decide (pk2 T e = pk2 T r)) (pos T n) e) ∧ f4 r = nI (fb_ct (fun e => decide (pk2 T e = pk2 T r)) e)
theorem I2_s {T : Nat → Int32} {n r : Nat} {f1 f2 f3 f4 : Nat → Int32} (v : VT T n) (hr : r < n) (h : I2 T n r f1 f2 f3 f4) (h2 : R2 T n r n f1 f2 f3 f4) : I2 T n (r + 1) f1 f2 f3 f4 := by
  intro q hq
  by_cases e : q = r
  · subst e
    obtain ⟨a, b, c, d⟩ := h2
    rw [mnl_cl v.2.1 (pzK T n) hr] at a
    rw [mnl_cl v.2.1 (pkK v) hr] at c
    exact ⟨a, b, c, d⟩
  · exact h q (by omega)
def I3 (T : Nat → Int32) (n k : Nat) (f : Nat → Int32) : Prop := ∀ j, j < k → f (lin T n j) = nI (grk T n j)
theorem I3_s {T : Nat → Int32} {n k : Nat} {f : Nat → Int32} {x : Int32} (h : I3 T n k f) (hk : k < n) (hx : x = nI (grk T n k)) : I3 T n (k + 1) (upd f (lin T n k) x) := by
  intro j hj
  by_cases e : j = k
  · subst e; rw [pk_us, hx]
  · have hne : lin T n j ≠ lin T n k := fun z => e (by rw [← pos_lin (T := T) (n := n) (k := j) (by omega), z, pos_lin hk])
    rw [pk_un hne]; exact h j (by omega)
theorem grk_z {T : Nat → Int32} {n k : Nat} (hk : k < n) (h : pf T n (lin T n k) = k) : grk T n k = 0 := by
  cases k with
  | zero => rfl
  | succ j =>
    rw [grk, if_neg]
    intro z
    have := ((in_part (lin_lt hk) (k := j) (by omega)).mp z).1
    omega
theorem grk_n {T : Nat → Int32} {n k : Nat} (v : VT T n) (hk : k < n) (h : ¬ pf T n (lin T n k) = k) : ∃ j, k = j + 1 ∧ grk T n k = grk T n j + (if gf T n (lin T n k) = k then 1 else 0) := by
  cases k with
  | zero => exact absurd (pf_first hk (fun z => absurd z (Nat.lt_irrefl _))) h
  | succ j =>
    refine ⟨j, rfl, ?_⟩
    have hp : pa T (lin T n j) = pa T (lin T n (j + 1)) := Classical.byContradiction (fun z => h (pf_first hk (fun _ => z)))
    rw [grk, if_pos hp]
    by_cases hq : ke T (lin T n j) = ke T (lin T n (j + 1))
    · rw [if_pos hq]
      have h2 := (cl_lin (pkK v) (k := j) (by omega) (lin_lt hk)).mp ((pk_iff v (lin_lt (by omega)) (lin_lt hk)).mpr ⟨hp, hq⟩)
      have h3 : gf T n (lin T n (j + 1)) ≤ j := h2.1
      rw [if_neg (by omega)]; rfl
    · rw [if_neg hq, if_pos (gf_first v hk (fun _ z => hq z.2))]
/-- the rows of numbers that lay how the rows of a table stand -/
def LaidM (D : Nat → Nat → Int32) (T : Nat → Int32) (n : Nat) : Prop := (∀ k, k < n → D 131 k = nI (lin T n k)) ∧ (∀ r, r < n → D 132 r = nI (pos T n r)) ∧ (∀ r, r < n → D 133 r = nI (pf T n r)) ∧ (∀ r, r < n → D 134 r = nI (pm T n r)) ∧ (∀ r, r < n → D 135 r = nI (gf T n r)) ∧ (∀ r, r < n → D 136 r = nI (gm T n r)) ∧ ∀ r, r < n → D 137 r = nI (gr T n r)
theorem LaidM.of {D D' : Nat → Nat → Int32} {T : Nat → Int32} {n : Nat} (h : LaidM D T n) (h0 : ∀ c, 131 ≤ c → c ≤ 137 → D' c = D c) : LaidM D' T n := by
  unfold LaidM
  rw [h0 131 (by decide) (by decide), h0 132 (by decide) (by decide), h0 133 (by decide) (by decide), h0 134 (by decide) (by decide), h0 135 (by decide) (by decide), h0 136 (by decide) (by decide), h0 137 (by decide) (by decide)]
  exact h
theorem I1_lin {T : Nat → Int32} {n : Nat} {f g : Nat → Int32} (h : I1 T n n f g) {k : Nat} (hk : k < n) : f k = nI (lin T n k) := by
  have := (h (lin T n k) (lin_lt hk)).2
  rw [pos_lin hk] at this
  exact this
theorem LaidM.mk {D : Nat → Nat → Int32} {T : Nat → Int32} {n : Nat} (h1 : I1 T n n (D 131) (D 132)) (h2 : I2 T n n (D 133) (D 134) (D 135) (D 136)) (h3 : I3 T n n (D 137)) : LaidM D T n :=
  ⟨fun k hk => I1_lin h1 hk, fun r hr => (h1 r hr).1, fun r hr => (h2 r hr).1, fun r hr => (h2 r hr).2.1, fun r hr => (h2 r hr).2.2.1, fun r hr => (h2 r hr).2.2.2, fun r hr => by
    have := h3 (pos T n r) (pos_lt hr)
    rw [lin_pos hr] at this
    exact this⟩
theorem pf_lt {T : Nat → Int32} {n r : Nat} (hr : r < n) : pf T n r < n := by
  have := pos_part (T := T) hr
  have := pos_lt (T := T) hr
  omega
theorem gf_lt {T : Nat → Int32} {n r : Nat} (v : VT T n) (hr : r < n) : gf T n r < n := by
  have h1 := (cl_pos (pkK v) hr).1
  have h2 : gf T n r ≤ pos T n r := h1
  have := pos_lt (T := T) hr
  omega
set_option maxHeartbeats 4000000 in
set_option maxRecDepth 100000 in
theorem m_stands (a : Nat) (ha : shL[a]? = some (.inl (0, 126))) (D : Nat → Nat → Int32) (J : Nat → Nat → Int64) (T : Nat → Int32) (hM : MT D a T) (n : Nat) (v : VT T n) (ha2 : a < 131) : FD yX7_stands cX7_stands 6 none 2 [.ref 124, .ref a] D J (fun res D' J' => res = none ∧ J' = J ∧ LaidM D' T n ∧ ∀ c, c < 131 ∨ 137 < c → D' c = D c) := by
  refine FD.of (by decide) rfl (Nat.le_of_ble_eq_true rfl) (fun Post hPost => ?_)
  show FV _ _ _ _ _ _ _ _ _ _ _ _ [_, _, _, _, _, _] [] _
  have h40 := v.2.1
  have loop3 : ∀ k, k ≤ n → ∀ (l4 l5 : Option Value) (E : Nat → Nat → Int32), I1 T n n (E 131) (E 132) → I2 T n n (E 133) (E 134) (E 135) (E 136) → I3 T n k (E 137) → (∀ c, c < 131 ∨ 137 < c → E c = D c) → FV cX7_stands 6 none yX7_stands.cls yX7_stands.name 2 0 0 Post 0 0 247 [some (.ref 124), some (.ref a), some (.int (nI n)), some (.int (nI k)), l4, l5] [] (lay E J) := by
    refine up_ind (fun k hk ih => ?_)
    intro l4 l5 E h1 h2 h3 hf
    refine fv_iload_n (q := 248) dX7_stands_247 rfl rfl ?_
    refine fv_iload_n (q := 249) dX7_stands_248 rfl rfl ?_
    refine fv_icmp_ge (q := 252) 318 dX7_stands_249 (by decide) rfl (fun c249 => ?_) (fun c249 => ?_)
    · rw [nI_leI (by omega) (by omega)] at c249
      have hin : k = n := by omega
      subst hin
      refine fv_vret dX7_stands_318 rfl rfl (Nat.le_refl _) ?_
      exact hPost _ _ _ ⟨rfl, rfl, LaidM.mk h1 h2 h3, hf⟩
    · rw [nI_leI (by omega) (by omega)] at c249
      refine fv_aload_n (q := 253) dX7_stands_252 rfl rfl ?_
      refine fl_getR (q := 256) dX7_stands_253 fX7_29 sh124 rfl rfl ?_
      refine fv_iload_n (q := 257) dX7_stands_256 rfl rfl ?_
      refine fl_iald (q := 258) _ dX7_stands_257 sh131 (by decide) rfl (by omega) rfl ?_
      refine fv_top (I1_lin h1 (by omega)) ?_
      have hl := lin_lt (T := T) (n := n) (k := k) (by omega)
      have hpl := pf_lt (T := T) hl
      refine fv_istore (q := 260) (l' := [_, _, _, _, _, _]) dX7_stands_258 (by decide) rfl rfl rfl ?_
      refine fv_aload_n (q := 261) dX7_stands_260 rfl rfl ?_
      refine fl_getR (q := 264) dX7_stands_261 fX7_47 sh124 rfl rfl ?_
      refine fv_iload (q := 266) dX7_stands_264 rfl rfl ?_
      refine fv_aload_n (q := 267) dX7_stands_266 rfl rfl ?_
      refine fl_getR (q := 270) dX7_stands_267 fX7_35 sh124 rfl rfl ?_
      refine fv_iload (q := 272) dX7_stands_270 rfl rfl ?_
      refine fl_iald (q := 273) _ dX7_stands_272 sh133 (by decide) rfl (by omega) rfl ?_
      refine fv_top (h2 _ hl).1 ?_
      refine fv_iload_n (q := 274) dX7_stands_273 rfl rfl ?_
      refine fv_icmp_ne (q := 277) 281 dX7_stands_274 (by decide) rfl (fun c274 => ?_) (fun c274 => ?_)
      · rw [nI_eq (by omega) (by omega)] at c274
        obtain ⟨j, hj, hg⟩ := grk_n v (by omega) c274
        have hl2 := lin_lt (T := T) (n := n) (k := j) (by omega)
        have hgl := gf_lt v hl
        refine fv_aload_n (q := 282) dX7_stands_281 rfl rfl ?_
        refine fl_getR (q := 285) dX7_stands_282 fX7_47 sh124 rfl rfl ?_
        refine fv_aload_n (q := 286) dX7_stands_285 rfl rfl ?_
        refine fl_getR (q := 289) dX7_stands_286 fX7_29 sh124 rfl rfl ?_
        refine fv_iload_n (q := 290) dX7_stands_289 rfl rfl ?_
        refine fv_iconst (v := 1) (q := 291) dX7_stands_290 (by decide) rfl ?_
        refine fv_isub (q := 292) dX7_stands_291 rfl ?_
        refine fl_iald (q := 293) j dX7_stands_292 sh131 (by decide) (by rw [hj]; exact nI_pred j) (by omega) rfl ?_
        refine fv_top (I1_lin h1 (k := j) (by omega)) ?_
        refine fl_iald (q := 294) (lin T n j) dX7_stands_293 sh137 (by decide) rfl (by omega) rfl ?_
        refine fv_top (h3 j (by omega)) ?_
        refine fv_aload_n (q := 295) dX7_stands_294 rfl rfl ?_
        refine fl_getR (q := 298) dX7_stands_295 fX7_41 sh124 rfl rfl ?_
        refine fv_iload (q := 300) dX7_stands_298 rfl rfl ?_
        refine fl_iald (q := 301) _ dX7_stands_300 sh135 (by decide) rfl (by omega) rfl ?_
        refine fv_top (h2 _ hl).2.2.1 ?_
        refine fv_iload_n (q := 302) dX7_stands_301 rfl rfl ?_
        refine fv_icmp_ne (q := 305) 309 dX7_stands_302 (by decide) rfl (fun c302 => ?_) (fun c302 => ?_)
        · rw [nI_eq (by omega) (by omega)] at c302
          refine fv_iconst (v := 0) (q := 310) dX7_stands_309 (by decide) rfl ?_
          refine fv_iadd (q := 311) dX7_stands_310 rfl ?_
          refine fl_iast (q := 312) (lin T n k) dX7_stands_311 sh137 (by decide) rfl (by omega) rfl ?_
          refine fv_iinc (v := _ + 1) (q := 315) (l' := [_, _, _, _, _, _]) dX7_stands_312 rfl rfl (by decide) rfl rfl rfl ?_
          refine fv_goto 247 dX7_stands_315 (by decide) ?_
          rw [nI_1]
          refine ih (by omega) _ _ _ (show I1 T n n (E 131) (E 132) from h1) (show I2 T n n (E 133) (E 134) (E 135) (E 136) from h2) (show I3 T n (k + 1) (upd (E 137) (lin T n k) _) from I3_s h3 (by omega) ?_) (fun c hc => by rw [up_n _ _ _ (by omega)]; exact hf c hc)
          rw [hg, if_neg c302]; rw [show (0 : Int32) = nI 0 from rfl, nI_add]
        · rw [nI_eq (by omega) (by omega)] at c302
          refine fv_iconst (v := 1) (q := 306) dX7_stands_305 (by decide) rfl ?_
          refine fv_goto 310 dX7_stands_306 (by decide) ?_
          refine fv_iadd (q := 311) dX7_stands_310 rfl ?_
          refine fl_iast (q := 312) (lin T n k) dX7_stands_311 sh137 (by decide) rfl (by omega) rfl ?_
          refine fv_iinc (v := _ + 1) (q := 315) (l' := [_, _, _, _, _, _]) dX7_stands_312 rfl rfl (by decide) rfl rfl rfl ?_
          refine fv_goto 247 dX7_stands_315 (by decide) ?_
          rw [nI_1]
          refine ih (by omega) _ _ _ (show I1 T n n (E 131) (E 132) from h1) (show I2 T n n (E 133) (E 134) (E 135) (E 136) from h2) (show I3 T n (k + 1) (upd (E 137) (lin T n k) _) from I3_s h3 (by omega) ?_) (fun c hc => by rw [up_n _ _ _ (by omega)]; exact hf c hc)
          rw [hg, if_pos c302]; exact nI_1 _
      · rw [nI_eq (by omega) (by omega)] at c274
        refine fv_iconst (v := 0) (q := 278) dX7_stands_277 (by decide) rfl ?_
        refine fv_goto 311 dX7_stands_278 (by decide) ?_
        refine fl_iast (q := 312) (lin T n k) dX7_stands_311 sh137 (by decide) rfl (by omega) rfl ?_
        refine fv_iinc (v := _ + 1) (q := 315) (l' := [_, _, _, _, _, _]) dX7_stands_312 rfl rfl (by decide) rfl rfl rfl ?_
        refine fv_goto 247 dX7_stands_315 (by decide) ?_
        rw [nI_1]
        refine ih (by omega) _ _ _ (show I1 T n n (E 131) (E 132) from h1) (show I2 T n n (E 133) (E 134) (E 135) (E 136) from h2) (show I3 T n (k + 1) (upd (E 137) (lin T n k) _) from I3_s h3 (by omega) ?_) (fun c hc => by rw [up_n _ _ _ (by omega)]; exact hf c hc)
        rw [grk_z (by omega) c274]; rfl
  have loop2 : ∀ r, r ≤ n → ∀ (l4 l5 : Option Value) (E : Nat → Nat → Int32), I1 T n n (E 131) (E 132) → I2 T n r (E 133) (E 134) (E 135) (E 136) → (∀ c, c < 131 ∨ 137 < c → E c = D c) → FV cX7_stands 6 none yX7_stands.cls yX7_stands.name 2 0 0 Post 0 0 93 [some (.ref 124), some (.ref a), some (.int (nI n)), some (.int (nI r)), l4, l5] [] (lay E J) := by
    refine up_ind (fun r hr ih => ?_)
    intro l4 l5 E h1 h2 hf
    have inner : ∀ e, e ≤ n → ¬ n ≤ r → ∀ (E : Nat → Nat → Int32), I1 T n n (E 131) (E 132) → I2 T n r (E 133) (E 134) (E 135) (E 136) → R2 T n r e (E 133) (E 134) (E 135) (E 136) → (∀ c, c < 131 ∨ 137 < c → E c = D c) → FV cX7_stands 6 none yX7_stands.cls yX7_stands.name 2 0 0 Post 0 0 131 [some (.ref 124), some (.ref a), some (.int (nI n)), some (.int (nI r)), some (.int (nI e)), l5] [] (lay E J) := by
      refine up_ind (fun e he ih2 => ?_)
      intro hrn E h1 h2 hR hf
      refine fv_iload (q := 133) dX7_stands_131 rfl rfl ?_
      refine fv_iload_n (q := 134) dX7_stands_133 rfl rfl ?_
      refine fv_icmp_ge (q := 137) 239 dX7_stands_134 (by decide) rfl (fun c134 => ?_) (fun c134 => ?_)
      · rw [nI_leI (by omega) (by omega)] at c134
        have hin : e = n := by omega
        rw [hin] at hR
        refine fv_iinc (v := _ + 1) (q := 242) (l' := [_, _, _, _, _, _]) dX7_stands_239 rfl rfl (by decide) rfl rfl rfl ?_
        refine fv_goto 93 dX7_stands_242 (by decide) ?_
        rw [nI_1]
        exact ih (by omega) _ _ E h1 (I2_s v (by omega) h2 hR) hf
      · rw [nI_leI (by omega) (by omega)] at c134
        have hME : MT E a T := by unfold MT; rw [hf a (Or.inl ha2)]; exact hM
        have b1 := mnl_le (fun e => decide (pz T e = pz T r)) (pos T n) e
        have b2 := mnl_le (fun e => decide (pk2 T e = pk2 T r)) (pos T n) e
        have b3 := pos_lt (T := T) (n := n) (r := e) (by omega)
        refine fv_aload_n (q := 138) dX7_stands_137 rfl rfl ?_
        refine fv_bipush (v := 6) (q := 140) dX7_stands_138 (by decide) rfl ?_
        refine fv_iload (q := 142) dX7_stands_140 rfl rfl ?_
        refine fv_iadd (q := 143) dX7_stands_142 rfl ?_
        refine fl_iald (q := 144) (6 + e) dX7_stands_143 ha (by decide) (nI_add 6 e) (by omega) rfl ?_
        refine fv_top (y := pa T e) (hME _ (by omega)) ?_
        refine fv_aload_n (q := 145) dX7_stands_144 rfl rfl ?_
        refine fv_bipush (v := 6) (q := 147) dX7_stands_145 (by decide) rfl ?_
        refine fv_iload_n (q := 148) dX7_stands_147 rfl rfl ?_
        refine fv_iadd (q := 149) dX7_stands_148 rfl ?_
        refine fl_iald (q := 150) (6 + r) dX7_stands_149 ha (by decide) (nI_add 6 r) (by omega) rfl ?_
        refine fv_top (y := pa T r) (hME _ (by omega)) ?_
        refine fv_icmp_ne (q := 153) 233 dX7_stands_150 (by decide) rfl (fun c150 => ?_) (fun c150 => ?_)
        · refine fv_iinc (v := _ + 1) (q := 236) (l' := [_, _, _, _, _, _]) dX7_stands_233 rfl rfl (by decide) rfl rfl rfl ?_
          refine fv_goto 131 dX7_stands_236 (by decide) ?_
          have q1 : ¬ pz T e = pz T r := fun z => c150 (pz_iff.mp z)
          have q2 : ¬ pk2 T e = pk2 T r := fun z => c150 ((pk_iff v (by omega) (by omega)).mp z).1
          rw [nI_1]
          refine ih2 (by omega) hrn E h1 h2 ?_ hf
          unfold R2; rw [mnl_f (p := fun e => decide (pz T e = pz T r)) (decide_eq_false q1), ct_f (p := fun e => decide (pz T e = pz T r)) (decide_eq_false q1), mnl_f (p := fun e => decide (pk2 T e = pk2 T r)) (decide_eq_false q2), ct_f (p := fun e => decide (pk2 T e = pk2 T r)) (decide_eq_false q2)]
          exact hR
        · refine fv_aload_n (q := 154) dX7_stands_153 rfl rfl ?_
          refine fl_getR (q := 157) dX7_stands_154 fX7_35 sh124 rfl rfl ?_
          refine fv_iload_n (q := 158) dX7_stands_157 rfl rfl ?_
          refine fv_aload_n (q := 159) dX7_stands_158 rfl rfl ?_
          refine fl_getR (q := 162) dX7_stands_159 fX7_35 sh124 rfl rfl ?_
          refine fv_iload_n (q := 163) dX7_stands_162 rfl rfl ?_
          refine fl_iald (q := 164) _ dX7_stands_163 sh133 (by decide) rfl (by omega) rfl ?_
          refine fv_top hR.1 ?_
          refine fv_aload_n (q := 165) dX7_stands_164 rfl rfl ?_
          refine fl_getR (q := 168) dX7_stands_165 fX7_32 sh124 rfl rfl ?_
          refine fv_iload (q := 170) dX7_stands_168 rfl rfl ?_
          refine fl_iald (q := 171) _ dX7_stands_170 sh132 (by decide) rfl (by omega) rfl ?_
          refine fv_top (h1 e (by omega)).1 ?_
          refine fl_callSi (As := [_, _]) (q := 174) dX7_stands_171 gX7_76 rfl rfl (Nat.le_of_ble_eq_true rfl) rfl (by decide) (m_less _ J _ _ (by omega) (by omega)) ?_
          refine fl_iast (q := 175) _ dX7_stands_174 sh133 (by decide) rfl (by omega) rfl ?_
          refine fv_aload_n (q := 176) dX7_stands_175 rfl rfl ?_
          refine fl_getR (q := 179) dX7_stands_176 fX7_38 sh124 rfl rfl ?_
          refine fv_iload_n (q := 180) dX7_stands_179 rfl rfl ?_
          refine fv_dup2 (q := 181) dX7_stands_180 rfl rfl rfl ?_
          refine fl_iald (q := 182) _ dX7_stands_181 sh134 (by decide) rfl (by omega) rfl ?_
          refine fv_top (y := nI _) hR.2.1 ?_
          refine fv_iconst (v := 1) (q := 183) dX7_stands_182 (by decide) rfl ?_
          refine fv_iadd (q := 184) dX7_stands_183 rfl ?_
          refine fv_top (nI_1 _) ?_
          refine fl_iast (q := 185) _ dX7_stands_184 sh134 (by decide) rfl (by omega) rfl ?_
          refine fv_aload_n (q := 186) dX7_stands_185 rfl rfl ?_
          refine fv_bipush (v := 46) (q := 188) dX7_stands_186 (by decide) rfl ?_
          refine fv_iload (q := 190) dX7_stands_188 rfl rfl ?_
          refine fv_iadd (q := 191) dX7_stands_190 rfl ?_
          refine fl_iald (q := 192) (46 + e) dX7_stands_191 ha (by decide) (nI_add 46 e) (by omega) rfl ?_
          refine fv_top (y := ke T e) (by rw [up_n _ _ _ (by omega), up_n _ _ _ (by omega)]; exact hME _ (by omega)) ?_
          refine fv_aload_n (q := 193) dX7_stands_192 rfl rfl ?_
          refine fv_bipush (v := 46) (q := 195) dX7_stands_193 (by decide) rfl ?_
          refine fv_iload_n (q := 196) dX7_stands_195 rfl rfl ?_
          refine fv_iadd (q := 197) dX7_stands_196 rfl ?_
          refine fl_iald (q := 198) (46 + r) dX7_stands_197 ha (by decide) (nI_add 46 r) (by omega) rfl ?_
          refine fv_top (y := ke T r) (by rw [up_n _ _ _ (by omega), up_n _ _ _ (by omega)]; exact hME _ (by omega)) ?_
          refine fv_icmp_ne (q := 201) 233 dX7_stands_198 (by decide) rfl (fun c198 => ?_) (fun c198 => ?_)
          · refine fv_iinc (v := _ + 1) (q := 236) (l' := [_, _, _, _, _, _]) dX7_stands_233 rfl rfl (by decide) rfl rfl rfl ?_
            refine fv_goto 131 dX7_stands_236 (by decide) ?_
            have q1 : pz T e = pz T r := pz_iff.mpr c150
            have q2 : ¬ pk2 T e = pk2 T r := fun z => c198 ((pk_iff v (by omega) (by omega)).mp z).2
            rw [nI_1]
            refine ih2 (by omega) hrn _ (show I1 T n n (E 131) (E 132) from h1) (show I2 T n r (upd (E 133) r _) (upd (E 134) r _) (E 135) (E 136) from h2.of (fun q hq => pk_un (by omega)) (fun q hq => pk_un (by omega)) (fun q hq => rfl) (fun q hq => rfl)) (show R2 T n r (e + 1) (upd (E 133) r _) (upd (E 134) r _) (E 135) (E 136) from ?_) (fun c hc => by rw [up_n _ _ _ (by omega), up_n _ _ _ (by omega)]; exact hf c hc)
            unfold R2; rw [mnl_t (p := fun e => decide (pz T e = pz T r)) (decide_eq_true q1), ct_t (p := fun e => decide (pz T e = pz T r)) (decide_eq_true q1), mnl_f (p := fun e => decide (pk2 T e = pk2 T r)) (decide_eq_false q2), ct_f (p := fun e => decide (pk2 T e = pk2 T r)) (decide_eq_false q2), pk_us, pk_us]
            exact ⟨rfl, rfl, hR.2.2.1, hR.2.2.2⟩
          · refine fv_aload_n (q := 202) dX7_stands_201 rfl rfl ?_
            refine fl_getR (q := 205) dX7_stands_202 fX7_41 sh124 rfl rfl ?_
            refine fv_iload_n (q := 206) dX7_stands_205 rfl rfl ?_
            refine fv_aload_n (q := 207) dX7_stands_206 rfl rfl ?_
            refine fl_getR (q := 210) dX7_stands_207 fX7_41 sh124 rfl rfl ?_
            refine fv_iload_n (q := 211) dX7_stands_210 rfl rfl ?_
            refine fl_iald (q := 212) _ dX7_stands_211 sh135 (by decide) rfl (by omega) rfl ?_
            refine fv_top (y := nI _) hR.2.2.1 ?_
            refine fv_aload_n (q := 213) dX7_stands_212 rfl rfl ?_
            refine fl_getR (q := 216) dX7_stands_213 fX7_32 sh124 rfl rfl ?_
            refine fv_iload (q := 218) dX7_stands_216 rfl rfl ?_
            refine fl_iald (q := 219) _ dX7_stands_218 sh132 (by decide) rfl (by omega) rfl ?_
            refine fv_top (y := nI _) (h1 e (by omega)).1 ?_
            refine fl_callSi (As := [_, _]) (q := 222) dX7_stands_219 gX7_76 rfl rfl (Nat.le_of_ble_eq_true rfl) rfl (by decide) (m_less _ J _ _ (by omega) (by omega)) ?_
            refine fl_iast (q := 223) _ dX7_stands_222 sh135 (by decide) rfl (by omega) rfl ?_
            refine fv_aload_n (q := 224) dX7_stands_223 rfl rfl ?_
            refine fl_getR (q := 227) dX7_stands_224 fX7_44 sh124 rfl rfl ?_
            refine fv_iload_n (q := 228) dX7_stands_227 rfl rfl ?_
            refine fv_dup2 (q := 229) dX7_stands_228 rfl rfl rfl ?_
            refine fl_iald (q := 230) _ dX7_stands_229 sh136 (by decide) rfl (by omega) rfl ?_
            refine fv_top (y := nI _) hR.2.2.2 ?_
            refine fv_iconst (v := 1) (q := 231) dX7_stands_230 (by decide) rfl ?_
            refine fv_iadd (q := 232) dX7_stands_231 rfl ?_
            refine fv_top (nI_1 _) ?_
            refine fl_iast (q := 233) _ dX7_stands_232 sh136 (by decide) rfl (by omega) rfl ?_
            refine fv_iinc (v := _ + 1) (q := 236) (l' := [_, _, _, _, _, _]) dX7_stands_233 rfl rfl (by decide) rfl rfl rfl ?_
            refine fv_goto 131 dX7_stands_236 (by decide) ?_
            have q1 : pz T e = pz T r := pz_iff.mpr c150
            have q2 : pk2 T e = pk2 T r := (pk_iff v (by omega) (by omega)).mpr ⟨c150, c198⟩
            rw [nI_1]
            refine ih2 (by omega) hrn _ (show I1 T n n (E 131) (E 132) from h1) (show I2 T n r (upd (E 133) r _) (upd (E 134) r _) (upd (E 135) r _) (upd (E 136) r _) from h2.of (fun q hq => pk_un (by omega)) (fun q hq => pk_un (by omega)) (fun q hq => pk_un (by omega)) (fun q hq => pk_un (by omega))) (show R2 T n r (e + 1) (upd (E 133) r _) (upd (E 134) r _) (upd (E 135) r _) (upd (E 136) r _) from ?_) (fun c hc => by rw [up_n _ _ _ (by omega), up_n _ _ _ (by omega), up_n _ _ _ (by omega), up_n _ _ _ (by omega)]; exact hf c hc)
            unfold R2; rw [mnl_t (p := fun e => decide (pz T e = pz T r)) (decide_eq_true q1), ct_t (p := fun e => decide (pz T e = pz T r)) (decide_eq_true q1), mnl_t (p := fun e => decide (pk2 T e = pk2 T r)) (decide_eq_true q2), ct_t (p := fun e => decide (pk2 T e = pk2 T r)) (decide_eq_true q2), pk_us, pk_us, pk_us, pk_us]
            exact ⟨rfl, rfl, rfl, rfl⟩
    refine fv_iload_n (q := 94) dX7_stands_93 rfl rfl ?_
    refine fv_iload_n (q := 95) dX7_stands_94 rfl rfl ?_
    refine fv_icmp_ge (q := 98) 245 dX7_stands_95 (by decide) rfl (fun c95 => ?_) (fun c95 => ?_)
    · rw [nI_leI (by omega) (by omega)] at c95
      have hin : r = n := by omega
      subst hin
      refine fv_iconst (v := 0) (q := 246) dX7_stands_245 (by decide) rfl ?_
      refine fv_istore_n (i := 3) (q := 247) (l' := [_, _, _, _, _, _]) dX7_stands_246 rfl (by decide) rfl rfl rfl ?_
      exact loop3 0 (Nat.zero_le _) _ _ E h1 h2 (fun j hj => absurd hj (Nat.not_lt_zero _)) hf
    · rw [nI_leI (by omega) (by omega)] at c95
      refine fv_aload_n (q := 99) dX7_stands_98 rfl rfl ?_
      refine fl_getR (q := 102) dX7_stands_99 fX7_35 sh124 rfl rfl ?_
      refine fv_iload_n (q := 103) dX7_stands_102 rfl rfl ?_
      refine fv_bipush (v := 99) (q := 105) dX7_stands_103 (by decide) rfl ?_
      refine fl_iast (q := 106) _ dX7_stands_105 sh133 (by decide) rfl (by omega) rfl ?_
      refine fv_aload_n (q := 107) dX7_stands_106 rfl rfl ?_
      refine fl_getR (q := 110) dX7_stands_107 fX7_41 sh124 rfl rfl ?_
      refine fv_iload_n (q := 111) dX7_stands_110 rfl rfl ?_
      refine fv_bipush (v := 99) (q := 113) dX7_stands_111 (by decide) rfl ?_
      refine fl_iast (q := 114) _ dX7_stands_113 sh135 (by decide) rfl (by omega) rfl ?_
      refine fv_aload_n (q := 115) dX7_stands_114 rfl rfl ?_
      refine fl_getR (q := 118) dX7_stands_115 fX7_38 sh124 rfl rfl ?_
      refine fv_iload_n (q := 119) dX7_stands_118 rfl rfl ?_
      refine fv_iconst (v := 0) (q := 120) dX7_stands_119 (by decide) rfl ?_
      refine fl_iast (q := 121) _ dX7_stands_120 sh134 (by decide) rfl (by omega) rfl ?_
      refine fv_aload_n (q := 122) dX7_stands_121 rfl rfl ?_
      refine fl_getR (q := 125) dX7_stands_122 fX7_44 sh124 rfl rfl ?_
      refine fv_iload_n (q := 126) dX7_stands_125 rfl rfl ?_
      refine fv_iconst (v := 0) (q := 127) dX7_stands_126 (by decide) rfl ?_
      refine fl_iast (q := 128) _ dX7_stands_127 sh136 (by decide) rfl (by omega) rfl ?_
      refine fv_iconst (v := 0) (q := 129) dX7_stands_128 (by decide) rfl ?_
      refine fv_istore (q := 131) (l' := [_, _, _, _, _, _]) dX7_stands_129 (by decide) rfl rfl rfl ?_
      refine inner 0 (Nat.zero_le _) c95 _ (show I1 T n n (E 131) (E 132) from h1) (show I2 T n r (upd (E 133) r _) (upd (E 134) r _) (upd (E 135) r _) (upd (E 136) r _) from h2.of (fun q hq => pk_un (by omega)) (fun q hq => pk_un (by omega)) (fun q hq => pk_un (by omega)) (fun q hq => pk_un (by omega))) (show R2 T n r 0 (upd (E 133) r _) (upd (E 134) r _) (upd (E 135) r _) (upd (E 136) r _) from ?_) (fun c hc => by rw [up_n _ _ _ (by omega), up_n _ _ _ (by omega), up_n _ _ _ (by omega), up_n _ _ _ (by omega)]; exact hf c hc)
      unfold R2; rw [pk_us, pk_us, pk_us, pk_us]; exact ⟨rfl, rfl, rfl, rfl⟩
  have loop1 : ∀ r, r ≤ n → ∀ (l4 l5 : Option Value) (E : Nat → Nat → Int32), I1 T n r (E 131) (E 132) → (∀ c, c < 131 ∨ 137 < c → E c = D c) → FV cX7_stands 6 none yX7_stands.cls yX7_stands.name 2 0 0 Post 0 0 6 [some (.ref 124), some (.ref a), some (.int (nI n)), some (.int (nI r)), l4, l5] [] (lay E J) := by
    refine up_ind (fun r hr ih => ?_)
    intro l4 l5 E h1 hf
    have hME : MT E a T := by unfold MT; rw [hf a (Or.inl ha2)]; exact hM
    have inner : ∀ e, e ≤ n → ¬ n ≤ r → FV cX7_stands 6 none yX7_stands.cls yX7_stands.name 2 0 0 Post 0 0 17 [some (.ref 124), some (.ref a), some (.int (nI n)), some (.int (nI r)), some (.int (nI (fb_ct (fun e => bf T e r) e))), some (.int (nI e))] [] (lay E J) := by
      refine up_ind (fun e he ih2 => ?_)
      intro hrn
      refine fv_iload (q := 19) dX7_stands_17 rfl rfl ?_
      refine fv_iload_n (q := 20) dX7_stands_19 rfl rfl ?_
      refine fv_icmp_ge (q := 23) 69 dX7_stands_20 (by decide) rfl (fun c20 => ?_) (fun c20 => ?_)
      · rw [nI_leI (by omega) (by omega)] at c20
        have hin : e = n := by omega
        subst hin
        have hpl := pos_lt (T := T) (n := e) (r := r) (by omega)
        refine fv_aload_n (q := 70) dX7_stands_69 rfl rfl ?_
        refine fl_getR (q := 73) dX7_stands_70 fX7_29 sh124 rfl rfl ?_
        refine fv_iload (q := 75) dX7_stands_73 rfl rfl ?_
        refine fv_iload_n (q := 76) dX7_stands_75 rfl rfl ?_
        refine fl_iast (q := 77) (pos T e r) dX7_stands_76 sh131 (by decide) rfl (by omega) rfl ?_
        refine fv_aload_n (q := 78) dX7_stands_77 rfl rfl ?_
        refine fl_getR (q := 81) dX7_stands_78 fX7_32 sh124 rfl rfl ?_
        refine fv_iload_n (q := 82) dX7_stands_81 rfl rfl ?_
        refine fv_iload (q := 84) dX7_stands_82 rfl rfl ?_
        refine fl_iast (q := 85) _ dX7_stands_84 sh132 (by decide) rfl (by omega) rfl ?_
        refine fv_iinc (v := _ + 1) (q := 88) (l' := [_, _, _, _, _, _]) dX7_stands_85 rfl rfl (by decide) rfl rfl rfl ?_
        refine fv_goto 6 dX7_stands_88 (by decide) ?_
        rw [nI_1]
        exact ih (by omega) _ _ _ (show I1 T e (r + 1) (upd (E 131) (pos T e r) _) (upd (E 132) r _) from I1_s h1 (by omega)) (fun c hc => by rw [up_n _ _ _ (by omega), up_n _ _ _ (by omega)]; exact hf c hc)
      · rw [nI_leI (by omega) (by omega)] at c20
        refine fv_iload (q := 25) dX7_stands_23 rfl rfl ?_
        refine fv_iload (q := 27) dX7_stands_25 rfl rfl ?_
        refine fv_iload_n (q := 28) dX7_stands_27 rfl rfl ?_
        refine fv_icmp_eq (q := 31) 59 dX7_stands_28 (by decide) rfl (fun c28 => ?_) (fun c28 => ?_)
        · rw [nI_eq (by omega) (by omega)] at c28
          refine fv_iconst (v := 0) (q := 60) dX7_stands_59 (by decide) rfl ?_
          refine fv_iadd (q := 61) dX7_stands_60 rfl ?_
          refine fv_istore (q := 63) (l' := [_, _, _, _, _, _]) dX7_stands_61 (by decide) rfl rfl rfl ?_
          refine fv_iinc (v := _ + 1) (q := 66) (l' := [_, _, _, _, _, _]) dX7_stands_63 rfl rfl (by decide) rfl rfl rfl ?_
          refine fv_goto 17 dX7_stands_66 (by decide) ?_
          subst c28
          rw [show (0 : Int32) = nI 0 from rfl, nI_add, nI_1]
          have h9 := ih2 (by omega) hrn
          rw [fb_ct_succ, bf_ir] at h9
          exact h9
        · rw [nI_eq (by omega) (by omega)] at c28
          refine fv_aload_n (q := 32) dX7_stands_31 rfl rfl ?_
          refine fv_aload_n (q := 33) dX7_stands_32 rfl rfl ?_
          refine fv_bipush (v := 6) (q := 35) dX7_stands_33 (by decide) rfl ?_
          refine fv_iload (q := 37) dX7_stands_35 rfl rfl ?_
          refine fv_iadd (q := 38) dX7_stands_37 rfl ?_
          refine fl_iald (q := 39) (6 + e) dX7_stands_38 ha (by decide) (nI_add 6 e) (by omega) rfl ?_
          refine fv_top (y := pa T e) (hME _ (by omega)) ?_
          refine fv_aload_n (q := 40) dX7_stands_39 rfl rfl ?_
          refine fv_bipush (v := 46) (q := 42) dX7_stands_40 (by decide) rfl ?_
          refine fv_iload (q := 44) dX7_stands_42 rfl rfl ?_
          refine fv_iadd (q := 45) dX7_stands_44 rfl ?_
          refine fl_iald (q := 46) (46 + e) dX7_stands_45 ha (by decide) (nI_add 46 e) (by omega) rfl ?_
          refine fv_top (y := ke T e) (hME _ (by omega)) ?_
          refine fv_iload (q := 48) dX7_stands_46 rfl rfl ?_
          refine fv_iload_n (q := 49) dX7_stands_48 rfl rfl ?_
          refine fl_callSi (As := [_, _, _, _, _]) (q := 52) dX7_stands_49 gX7_72 rfl rfl (Nat.le_of_ble_eq_true rfl) rfl (by decide) (m_isAhead a ha E J T hME _ _ e r (by omega) (by omega)) ?_
          refine fv_top (y := bi (bf T e r)) rfl ?_
          refine fv_if_eq (q := 55) 59 dX7_stands_52 (by decide) rfl (fun c52 => ?_) (fun c52 => ?_)
          · rw [bi_0] at c52
            refine fv_iconst (v := 0) (q := 60) dX7_stands_59 (by decide) rfl ?_
            refine fv_iadd (q := 61) dX7_stands_60 rfl ?_
            refine fv_istore (q := 63) (l' := [_, _, _, _, _, _]) dX7_stands_61 (by decide) rfl rfl rfl ?_
            refine fv_iinc (v := _ + 1) (q := 66) (l' := [_, _, _, _, _, _]) dX7_stands_63 rfl rfl (by decide) rfl rfl rfl ?_
            refine fv_goto 17 dX7_stands_66 (by decide) ?_
            rw [show (0 : Int32) = nI 0 from rfl, nI_add, nI_1]
            have h9 := ih2 (by omega) hrn
            rw [fb_ct_succ, c52] at h9
            exact h9
          · rw [bi_n'] at c52
            refine fv_iconst (v := 1) (q := 56) dX7_stands_55 (by decide) rfl ?_
            refine fv_goto 60 dX7_stands_56 (by decide) ?_
            refine fv_iadd (q := 61) dX7_stands_60 rfl ?_
            refine fv_istore (q := 63) (l' := [_, _, _, _, _, _]) dX7_stands_61 (by decide) rfl rfl rfl ?_
            refine fv_iinc (v := _ + 1) (q := 66) (l' := [_, _, _, _, _, _]) dX7_stands_63 rfl rfl (by decide) rfl rfl rfl ?_
            refine fv_goto 17 dX7_stands_66 (by decide) ?_
            rw [nI_1, nI_1]
            have h9 := ih2 (by omega) hrn
            rw [fb_ct_succ, c52] at h9
            exact h9
    refine fv_iload_n (q := 7) dX7_stands_6 rfl rfl ?_
    refine fv_iload_n (q := 8) dX7_stands_7 rfl rfl ?_
    refine fv_icmp_ge (q := 11) 91 dX7_stands_8 (by decide) rfl (fun c8 => ?_) (fun c8 => ?_)
    · rw [nI_leI (by omega) (by omega)] at c8
      have hin : r = n := by omega
      subst hin
      refine fv_iconst (v := 0) (q := 92) dX7_stands_91 (by decide) rfl ?_
      refine fv_istore_n (i := 3) (q := 93) (l' := [_, _, _, _, _, _]) dX7_stands_92 rfl (by decide) rfl rfl rfl ?_
      exact loop2 0 (Nat.zero_le _) _ _ E h1 (fun q hq => absurd hq (Nat.not_lt_zero _)) hf
    · rw [nI_leI (by omega) (by omega)] at c8
      refine fv_iconst (v := 0) (q := 12) dX7_stands_11 (by decide) rfl ?_
      refine fv_istore (q := 14) (l' := [_, _, _, _, _, _]) dX7_stands_12 (by decide) rfl rfl rfl ?_
      refine fv_iconst (v := 0) (q := 15) dX7_stands_14 (by decide) rfl ?_
      refine fv_istore (q := 17) (l' := [_, _, _, _, _, _]) dX7_stands_15 (by decide) rfl rfl rfl ?_
      exact inner 0 (Nat.zero_le _) c8
  refine fv_aload_n (q := 1) dX7_stands_0 rfl rfl ?_
  refine fv_iconst (v := 0) (q := 2) dX7_stands_1 (by decide) rfl ?_
  refine fl_iald (q := 3) 0 dX7_stands_2 ha (by decide) rfl (by decide) rfl ?_
  refine fv_top (y := nI n) ((hM 0 (by decide)).trans v.1) ?_
  refine fv_istore_n (i := 2) (q := 4) (l' := [_, _, _, _, _, _]) dX7_stands_3 rfl (by decide) rfl rfl rfl ?_
  refine fv_iconst (v := 0) (q := 5) dX7_stands_4 (by decide) rfl ?_
  refine fv_istore_n (i := 3) (q := 6) (l' := [_, _, _, _, _, _]) dX7_stands_5 rfl (by decide) rfl rfl rfl ?_
  exact loop1 0 (Nat.zero_le _) _ _ D (fun q hq => absurd hq (Nat.not_lt_zero _)) (fun _ _ => rfl)
