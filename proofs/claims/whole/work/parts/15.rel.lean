/-! tables in cells, and what calls make of a table -/
def TabOf (D : Nat → Nat → Int32) (t : Nat) (T : Nat → Int32) : Prop := (∀ f, f < 6 → D t (3 + f) = T f) ∧ (∀ r, r < 40 → D (t + 1) r = pa T r) ∧ (∀ r, r < 40 → D (t + 2) r = ke T r) ∧ ∀ r, r < 40 → D (t + 3) r = wo T r
theorem TabOf.of {D D' : Nat → Nat → Int32} {t : Nat} {T : Nat → Int32} (h : TabOf D t T) (h0 : D' t = D t) (h1 : D' (t + 1) = D (t + 1)) (h2 : D' (t + 2) = D (t + 2)) (h3 : D' (t + 3) = D (t + 3)) : TabOf D' t T := by
  unfold TabOf; rw [h0, h1, h2, h3]; exact h
theorem TabOf.n {D : Nat → Nat → Int32} {t n : Nat} {T : Nat → Int32} (h : TabOf D t T) (v : VT T n) : D t 3 = nI n := (h.1 0 (by decide)).trans v.1
def OrdOf (D : Nat → Nat → Int32) (b : Nat) (T : Nat → Int32) (n : Nat) : Prop := (∀ k, k < n → D (b + 6) k = nI (lin T n k)) ∧ (∀ r, r < n → D (b + 7) r = nI (pos T n r)) ∧ (∀ r, r < n → D (b + 8) r = nI (pos T n r - pf T n r)) ∧ ∀ r, r < n → D (b + 9) r = nI (gr T n r)
theorem OrdOf.of {D D' : Nat → Nat → Int32} {b n : Nat} {T : Nat → Int32} (h : OrdOf D b T n) (h0 : D' (b + 6) = D (b + 6)) (h1 : D' (b + 7) = D (b + 7)) (h2 : D' (b + 8) = D (b + 8)) (h3 : D' (b + 9) = D (b + 9)) : OrdOf D' b T n := by
  unfold OrdOf; rw [h0, h1, h2, h3]; exact h
theorem TabIx.dis {t u : Nat} (h : TabIx t) (h2 : TabIx u) (hne : t ≠ u) : t + 4 ≤ u ∨ u + 4 ≤ t := by
  rcases h with h | h | ⟨k, hk, h⟩ | h | h <;> rcases h2 with h2 | h2 | ⟨j, hj, h2⟩ | h2 | h2 <;> omega
def addT (T : Nat → Int32) (n : Nat) (p k w : Int32) : Nat → Int32 := fun x => if x = 0 then nI (n + 1) else if x = 6 + n then p else if x = 46 + n then k else if x = 86 + n then w else T x
def dropT (T : Nat → Int32) (n r : Nat) : Nat → Int32 := fun x => if x = 0 then nI (n - 1) else if (6 + r ≤ x ∧ x + 1 < 6 + n) ∨ (46 + r ≤ x ∧ x + 1 < 46 + n) ∨ (86 + r ≤ x ∧ x + 1 < 86 + n) then T (x + 1) else T x
def chgT (T : Nat → Int32) (r : Nat) (k w : Int32) : Nat → Int32 := fun x => if x = 46 + r then k else if x = 86 + r then w else T x
def frmT (T : Nat → Int32) (m b e l : Int32) : Nat → Int32 := fun x => if x = 1 then m else if x = 2 then b else if x = 3 then e else if x = 4 then l else T x
def ahdT (T : Nat → Int32) (a : Int32) : Nat → Int32 := fun x => if x = 5 then a else T x
theorem VT_add {T : Nat → Int32} {n : Nat} {p k w : Int32} (v : VT T n) (hn : n < 40) (hp : 0 ≤ p.toInt ∧ p.toInt ≤ 5) (hk : isKeyI k) (hw : isWorI w) : VT (addT T n p k w) (n + 1) := by
  obtain ⟨v0, v1, v5, v2, v3, vr⟩ := v
  have a : ∀ x, 0 < x → x < 6 → addT T n p k w x = T x := fun x h1 h2 => by
    unfold addT; rw [if_neg (by omega), if_neg (by omega), if_neg (by omega), if_neg (by omega)]
  refine ⟨rfl, by omega, by rw [a 5 (by omega) (by omega)]; exact v5, by rw [a 2 (by omega) (by omega)]; exact v2, by rw [a 3 (by omega) (by omega)]; exact v3, fun r hr => ?_⟩
  by_cases e : r = n
  · subst e
    have e1 : pa (addT T r p k w) r = p := by unfold pa addT; rw [if_neg (by omega), if_pos rfl]
    have e2 : ke (addT T r p k w) r = k := by unfold ke addT; rw [if_neg (by omega), if_neg (by omega), if_pos rfl]
    have e3 : wo (addT T r p k w) r = w := by unfold wo addT; rw [if_neg (by omega), if_neg (by omega), if_neg (by omega), if_pos rfl]
    unfold pz
    rw [e1, e2, e3]
    exact ⟨hp, hk, hw⟩
  · have e1 : pa (addT T n p k w) r = pa T r := by unfold pa addT; rw [if_neg (by omega), if_neg (by omega), if_neg (by omega), if_neg (by omega)]
    have e2 : ke (addT T n p k w) r = ke T r := by unfold ke addT; rw [if_neg (by omega), if_neg (by omega), if_neg (by omega), if_neg (by omega)]
    have e3 : wo (addT T n p k w) r = wo T r := by unfold wo addT; rw [if_neg (by omega), if_neg (by omega), if_neg (by omega), if_neg (by omega)]
    have := vr r (by omega)
    unfold pz at this ⊢
    rw [e1, e2, e3]
    exact this
theorem drop_pa {T : Nat → Int32} {n r i : Nat} (hn : n ≤ 40) (hi : i < 40) : pa (dropT T n r) i = (if r ≤ i ∧ i + 1 < n then pa T (i + 1) else pa T i) := by
  unfold pa dropT
  rw [if_neg (by omega)]
  by_cases h : r ≤ i ∧ i + 1 < n
  · rw [if_pos (by omega), if_pos h]; rfl
  · rw [if_neg (by omega), if_neg h]
theorem drop_ke {T : Nat → Int32} {n r i : Nat} (hn : n ≤ 40) (hi : i < 40) : ke (dropT T n r) i = (if r ≤ i ∧ i + 1 < n then ke T (i + 1) else ke T i) := by
  unfold ke dropT
  rw [if_neg (by omega)]
  by_cases h : r ≤ i ∧ i + 1 < n
  · rw [if_pos (by omega), if_pos h]; rfl
  · rw [if_neg (by omega), if_neg h]
theorem drop_wo {T : Nat → Int32} {n r i : Nat} (hn : n ≤ 40) (hi : i < 40) : wo (dropT T n r) i = (if r ≤ i ∧ i + 1 < n then wo T (i + 1) else wo T i) := by
  unfold wo dropT
  rw [if_neg (by omega)]
  by_cases h : r ≤ i ∧ i + 1 < n
  · rw [if_pos (by omega), if_pos h]; rfl
  · rw [if_neg (by omega), if_neg h]
theorem drop_f {T : Nat → Int32} {n r f : Nat} (hf : 0 < f) (hf2 : f < 6) : dropT T n r f = T f := by
  unfold dropT
  rw [if_neg (by omega), if_neg (by omega)]
theorem VT_drop {T : Nat → Int32} {n r : Nat} (v : VT T n) (hr : r < n) : VT (dropT T n r) (n - 1) := by
  obtain ⟨v0, v1, v5, v2, v3, vr⟩ := v
  refine ⟨rfl, by omega, by rw [drop_f (by omega) (by omega)]; exact v5, by rw [drop_f (by omega) (by omega)]; exact v2, by rw [drop_f (by omega) (by omega)]; exact v3, fun i hi => ?_⟩
  unfold pz
  rw [drop_pa v1 (by omega), drop_ke v1 (by omega), drop_wo v1 (by omega)]
  by_cases h : r ≤ i ∧ i + 1 < n
  · rw [if_pos h, if_pos h, if_pos h]; exact vr (i + 1) h.2
  · rw [if_neg h, if_neg h, if_neg h]; exact vr i (by omega)
theorem VT_chg {T : Nat → Int32} {n r : Nat} {k w : Int32} (v : VT T n) (hr : r < n) (hk : isKeyI k) (hw : isWorI w) : VT (chgT T r k w) n := by
  obtain ⟨v0, v1, v5, v2, v3, vr⟩ := v
  have a : ∀ x, x < 6 → chgT T r k w x = T x := fun x h2 => by unfold chgT; rw [if_neg (by omega), if_neg (by omega)]
  refine ⟨by rw [a 0 (by omega)]; exact v0, v1, by rw [a 5 (by omega)]; exact v5, by rw [a 2 (by omega)]; exact v2, by rw [a 3 (by omega)]; exact v3, fun i hi => ?_⟩
  have e1 : pa (chgT T r k w) i = pa T i := by unfold pa chgT; rw [if_neg (by omega), if_neg (by omega)]
  have e2 : ke (chgT T r k w) i = if i = r then k else ke T i := by
    unfold ke chgT
    by_cases h : i = r
    · rw [if_pos (by omega), if_pos h]
    · rw [if_neg (by omega), if_neg (by omega), if_neg h]
  have e3 : wo (chgT T r k w) i = if i = r then w else wo T i := by
    unfold wo chgT
    rw [if_neg (by omega)]
    by_cases h : i = r
    · rw [if_pos (by omega), if_pos h]
    · rw [if_neg (by omega), if_neg h]
  have := vr i hi
  unfold pz at this ⊢
  rw [e1, e2, e3]
  refine ⟨this.1, ?_, ?_⟩
  · split
    · exact hk
    · exact this.2.1
  · split
    · exact hw
    · exact this.2.2
theorem VT_frm {T : Nat → Int32} {n : Nat} {m b e l : Int32} (v : VT T n) (hb : isBndI b) (he : isBndI e) : VT (frmT T m b e l) n := by
  obtain ⟨v0, v1, v5, v2, v3, vr⟩ := v
  have a : ∀ x, x = 0 ∨ 4 < x → frmT T m b e l x = T x := fun x h2 => by unfold frmT; rw [if_neg (by omega), if_neg (by omega), if_neg (by omega), if_neg (by omega)]
  refine ⟨by rw [a 0 (by omega)]; exact v0, v1, by rw [a 5 (by omega)]; exact v5, hb, he, fun i hi => ?_⟩
  have := vr i hi
  unfold pz pa ke wo at this ⊢
  rw [a _ (by omega), a _ (by omega), a _ (by omega)]
  exact this
theorem VT_ahd {T : Nat → Int32} {n : Nat} {c : Int32} (v : VT T n) (hc : c = 0 ∨ c = 1) : VT (ahdT T c) n := by
  obtain ⟨v0, v1, v5, v2, v3, vr⟩ := v
  have a : ∀ x, x ≠ 5 → ahdT T c x = T x := fun x h2 => by unfold ahdT; rw [if_neg h2]
  refine ⟨by rw [a 0 (by omega)]; exact v0, v1, hc, by rw [a 2 (by omega)]; exact v2, by rw [a 3 (by omega)]; exact v3, fun i hi => ?_⟩
  have := vr i hi
  unfold pz pa ke wo at this ⊢
  rw [a _ (by omega), a _ (by omega), a _ (by omega)]
  exact this
