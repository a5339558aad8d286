/-! putting one in, from behind; rows counted as they stand -/
def ivI (S : List Int32) (m k : Nat) (a0 a : Nat → Int32) : Prop := (∀ j, j < k → a j = S.getD j 0) ∧ (∀ j, k ≤ j → j < m → a (j + 1) = S.getD j 0) ∧ (∀ j, m < j → a j = a0 j)
theorem ivI_0 {S : List Int32} {m : Nat} {a : Nat → Int32} (h : hold a S) (hm : S.length = m) : ivI S m m a a :=
  ⟨fun j hj => hold_get h (by omega) 0, fun j h1 h2 => by omega, fun _ _ => rfl⟩
theorem ivI_s {S : List Int32} {m k : Nat} {a0 a : Nat → Int32} (h : ivI S m (k + 1) a0 a) (hk : k + 1 ≤ m) : ivI S m k a0 (upd a (k + 1) (a k)) := by
  refine ⟨fun j hj => ?_, fun j h1 h2 => ?_, fun j hj => ?_⟩
  · rw [pk_un (by omega)]; exact h.1 j (by omega)
  · by_cases e : j = k
    · subst e; rw [pk_us]; exact h.1 j (by omega)
    · rw [pk_un (by omega)]; exact h.2.1 j (by omega) h2
  · rw [pk_un (by omega)]; exact h.2.2 j hj
theorem ivI_e {S : List Int32} {m k : Nat} {a0 a : Nat → Int32} {x : Int32} (h : ivI S m k a0 a) (hm : S.length = m) (hk : k = stp S x m) : hold (upd a k x) (isr S x) ∧ ∀ j, m < j → upd a k x j = a0 j := by
  have hle : k ≤ m := by rw [hk]; exact stp_le S x m
  refine ⟨fun j y hj => ?_, fun j hj => ?_⟩
  · unfold isr at hj
    rw [hm, ← hk] at hj
    have hl : (S.take k).length = k := by rw [List.length_take]; omega
    rcases Nat.lt_trichotomy j k with q | q | q
    · rw [List.getElem?_append_left (by omega), List.getElem?_take_of_lt q] at hj
      rw [pk_un (by omega), h.1 j q, List.getD_eq_getElem?_getD, hj]
      rfl
    · subst q
      rw [List.getElem?_append_right (by omega), hl, Nat.sub_self, List.getElem?_cons_zero] at hj
      rw [pk_us]
      exact Option.some.inj hj
    · rw [List.getElem?_append_right (by omega), hl, show j - k = (j - k - 1) + 1 by omega, List.getElem?_cons_succ, List.getElem?_drop] at hj
      have hj2 : S[j - 1]? = some y := by rw [← hj]; congr 1; omega
      have hlt : j - 1 < S.length := (List.getElem?_eq_some_iff.mp hj2).1
      rw [pk_un (by omega), show j = (j - 1) + 1 by omega, h.2.1 (j - 1) (by omega) (by omega), List.getD_eq_getElem?_getD, hj2]
      rfl
  · rw [pk_un (by omega)]; exact h.2.2 j hj
/-- counted by place or by number: the same -/
theorem ct_one {n x : Nat} (hx : x < n) : fb_ct (fun e => decide (e = x)) n = 1 := by
  have h := fb_ct_upd (fun _ => false) true hx
  rw [ct_false (fun _ _ => rfl)] at h
  have e : fb_ct (fun k => if k = x then true else false) n = fb_ct (fun e => decide (e = x)) n := fb_ct_cong (fun k _ => by by_cases q : k = x <;> simp [q])
  rw [e] at h
  simpa using h
theorem ct_lin (T : Nat → Int32) (n : Nat) (P : Nat → Bool) : ∀ i, i ≤ n → fb_ct (fun k => P (lin T n k)) i = fb_ct (fun e => P e && decide (pos T n e < i)) n := by
  intro i
  induction i with
  | zero =>
    intro _
    rw [ct_false (n := n) (fun k _ => by simp)]
    rfl
  | succ i ih =>
    intro hi
    have hl := lin_lt (T := T) (n := n) (k := i) (by omega)
    have hp := pos_lin (T := T) (n := n) (k := i) (by omega)
    rw [fb_ct_succ, ih (by omega)]
    by_cases hP : P (lin T n i) = true
    · rw [if_pos hP]
      have h1 := ct_one hl
      rw [← h1, ← fb_ct_or (fun k hk h => by
        have h2 : k = lin T n i := by simpa using h.2
        have h3 := h.1
        rw [h2, hp] at h3
        simp at h3)]
      refine fb_ct_cong (fun k hk => ?_)
      rw [Bool.eq_iff_iff]
      simp only [Bool.or_eq_true, Bool.and_eq_true, decide_eq_true_eq]
      constructor
      · rintro (⟨a, b⟩ | a)
        · exact ⟨a, by omega⟩
        · subst a; exact ⟨hP, by omega⟩
      · rintro ⟨a, b⟩
        by_cases q : pos T n k < i
        · exact Or.inl ⟨a, q⟩
        · exact Or.inr (pos_inj (T := T) hk hl (by omega))
    · rw [if_neg hP, Nat.add_zero]
      refine fb_ct_cong (fun k hk => ?_)
      rw [Bool.eq_iff_iff]
      simp only [Bool.and_eq_true, decide_eq_true_eq]
      constructor
      · rintro ⟨a, b⟩; exact ⟨a, by omega⟩
      · rintro ⟨a, b⟩
        refine ⟨a, ?_⟩
        have : pos T n k ≠ i := fun e => hP (by rw [← pos_inj (T := T) hk hl (by omega)]; exact a)
        omega
theorem ct_linN (T : Nat → Int32) (n : Nat) (P : Nat → Bool) : fb_ct (fun k => P (lin T n k)) n = fb_ct P n := by
  rw [ct_lin T n P n (Nat.le_refl _)]
  exact fb_ct_cong (fun k hk => by simp [pos_lt hk])
theorem ct_pos (T : Nat → Int32) (n i : Nat) (hi : i ≤ n) : fb_ct (fun e => decide (pos T n e < i)) n = i := by
  have h := ct_lin T n (fun _ => true) i hi
  have h2 : fb_ct (fun _ => true) i = i := fb_ct_all.mpr (fun _ _ => rfl)
  rw [h2] at h
  refine Eq.trans (fb_ct_cong (fun k _ => ?_)) h.symm
  simp
/-- one row more -/
theorem pos_s (T : Nat → Int32) (r e : Nat) : pos T (r + 1) e = pos T r e + (if bf T r e then 1 else 0) := by
  unfold pos; rw [fb_ct_succ]
theorem pos_self (T : Nat → Int32) (r : Nat) : pos T (r + 1) r = pos T r r := by
  rw [pos_s, bf_ir]; rfl
/-- the rows below r as they stand, with a gap at i -/
def ivR (T : Nat → Int32) (r i : Nat) (a : Nat → Int32) : Prop := (∀ j, j < i → a j = nI (lin T r j)) ∧ (∀ j, i ≤ j → j < r → a (j + 1) = nI (lin T r j)) ∧ ∀ j, i ≤ j → j < r → bf T r (lin T r j) = true
theorem ivR_0 {T : Nat → Int32} {r : Nat} {a : Nat → Int32} (h : ∀ j, j < r → a j = nI (lin T r j)) : ivR T r r a := ⟨h, fun j h1 h2 => by omega, fun j h1 h2 => by omega⟩
theorem ivR_s {T : Nat → Int32} {r i : Nat} {a : Nat → Int32} (h : ivR T r (i + 1) a) (hi : i + 1 ≤ r) (hb : bf T r (lin T r i) = true) : ivR T r i (upd a (i + 1) (a i)) := by
  refine ⟨fun j hj => ?_, fun j h1 h2 => ?_, fun j h1 h2 => ?_⟩
  · rw [pk_un (by omega)]; exact h.1 j (by omega)
  · by_cases e : j = i
    · subst e; rw [pk_us]; exact h.1 j (by omega)
    · rw [pk_un (by omega)]; exact h.2.1 j (by omega) h2
  · by_cases e : j = i
    · subst e; exact hb
    · exact h.2.2 j (by omega) h2
theorem ivR_e {T : Nat → Int32} {r i : Nat} {a : Nat → Int32} (h : ivR T r i a) (hi : i ≤ r) (hb : 0 < i → bf T r (lin T r (i - 1)) = false) : ∀ j, j < r + 1 → upd a i (nI r) j = nI (lin T (r + 1) j) := by
  have hlow : ∀ e, e < r → (pos T r e < i ↔ bf T e r = true) := by
    intro e he
    constructor
    · intro hp
      have h1 := hb (by omega)
      have hl := lin_lt (T := T) (n := r) (k := i - 1) (by omega)
      have h2 : bf T (lin T r (i - 1)) r = true := by
        rcases bf_tot (T := T) (e := lin T r (i - 1)) (r := r) (by omega) with q | q
        · exact q
        · rw [h1] at q; cases q
      by_cases q : pos T r e = i - 1
      · have : e = lin T r (i - 1) := pos_inj he hl (by rw [pos_lin (by omega)]; exact q)
        rw [this]; exact h2
      · have h3 := (pos_iff (T := T) he hl).mp (by rw [pos_lin (by omega)]; omega)
        exact bf_tr h3 h2
    · intro hbe
      rcases Nat.lt_or_ge (pos T r e) i with q | q
      · exact q
      · have := h.2.2 (pos T r e) q (pos_lt he)
        rw [lin_pos he] at this
        rw [bf_as this] at hbe
        cases hbe
  have hc : pos T (r + 1) r = i := by
    rw [pos_self]
    unfold pos
    rw [← ct_pos T r i hi]
    refine fb_ct_cong (fun e he => ?_)
    rw [Bool.eq_iff_iff]
    simp only [decide_eq_true_eq]
    exact (hlow e he).symm
  have key : ∀ e, e < r + 1 → upd a i (nI r) (pos T (r + 1) e) = nI e := by
    intro e he
    by_cases q : e = r
    · subst q; rw [hc, pk_us]
    · have he' : e < r := by omega
      rw [pos_s]
      by_cases g : bf T e r = true
      · have g2 := (hlow e he').mpr g
        rw [bf_as g]
        simp only [Bool.false_eq_true, if_false, Nat.add_zero]
        rw [pk_un (by omega), h.1 _ g2, lin_pos he']
      · have g2 : ¬ pos T r e < i := fun z => g ((hlow e he').mp z)
        have g3 : bf T r e = true := by
          rcases bf_tot (T := T) (e := e) (r := r) q with z | z
          · exact absurd z g
          · exact z
        rw [g3]
        simp only [if_true]
        rw [pk_un (by omega), h.2.1 _ (by omega) (pos_lt he'), lin_pos he']
  intro j hj
  have := key (lin T (r + 1) j) (lin_lt hj)
  rw [pos_lin hj] at this
  exact this
/-- where a part begins, at its first place -/
theorem pf_first {T : Nat → Int32} {n i : Nat} (hi : i < n) (h : 0 < i → ¬ pa T (lin T n (i - 1)) = pa T (lin T n i)) : pf T n (lin T n i) = i := by
  have hl := lin_lt (T := T) hi
  have h1 := pos_part (T := T) hl
  rw [pos_lin hi] at h1
  rcases Nat.eq_zero_or_pos i with q | q
  · omega
  · have h2 := h q
    rw [in_part (T := T) hl (by omega)] at h2
    omega
theorem gf_first {T : Nat → Int32} {n i : Nat} (v : VT T n) (hi : i < n) (h : 0 < i → ¬ (pa T (lin T n (i - 1)) = pa T (lin T n i) ∧ ke T (lin T n (i - 1)) = ke T (lin T n i))) : gf T n (lin T n i) = i := by
  have hl := lin_lt (T := T) hi
  have h1 := cl_pos (pkK v) hl
  rw [pos_lin hi] at h1
  unfold gf
  rcases Nat.eq_zero_or_pos i with q | q
  · omega
  · have h2 := h q
    rw [← pk_iff v (lin_lt (by omega)) hl, cl_lin (pkK v) (by omega) hl] at h2
    omega
