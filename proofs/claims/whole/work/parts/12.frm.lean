/-! groups, and frames -/
def grk (T : Nat → Int32) (n : Nat) : Nat → Nat
  | 0 => 0
  | k + 1 => if pa T (lin T n k) = pa T (lin T n (k + 1)) then (if ke T (lin T n k) = ke T (lin T n (k + 1)) then grk T n k else grk T n k + 1) else 0
theorem lin_pz {T : Nat → Int32} {n j k : Nat} (h : j ≤ k) (hk : k < n) : pz T (lin T n j) ≤ pz T (lin T n k) := by
  rcases Nat.eq_or_lt_of_le h with rfl | h
  · exact Int.le_refl _
  · have := (lin_bf (T := T) (by omega) hk).mp h
    rw [bf_iff] at this
    omega
theorem lin_oz {T : Nat → Int32} {n j k : Nat} (h : j ≤ k) (hk : k < n) (hp : pz T (lin T n j) = pz T (lin T n k)) : oz T (lin T n j) ≤ oz T (lin T n k) := by
  rcases Nat.eq_or_lt_of_le h with rfl | h
  · exact Int.le_refl _
  · have := (lin_bf (T := T) (by omega) hk).mp h
    rw [bf_iff] at this
    omega
theorem ke_oz {T : Nat → Int32} {n e r : Nat} (v : VT T n) (he : e < n) (hr : r < n) : ke T e = ke T r ↔ oz T e = oz T r := by
  unfold oz od
  rw [Int32.toInt_inj, okk_inj (v.2.2.2.2.2 e he).2.1 (v.2.2.2.2.2 r hr).2.1]
theorem grk_step {T : Nat → Int32} {n k : Nat} (v : VT T n) (hk : k + 1 < n) (hp : pz T (lin T n k) = pz T (lin T n (k + 1))) : grk T n (k + 1) = grk T n k + (if oz T (lin T n k) = oz T (lin T n (k + 1)) then 0 else 1) := by
  show (if pa T (lin T n k) = pa T (lin T n (k + 1)) then _ else _) = _
  rw [if_pos (pz_iff.mp hp)]
  by_cases h : oz T (lin T n k) = oz T (lin T n (k + 1))
  · rw [if_pos h, if_pos ((ke_oz v (lin_lt (by omega)) (lin_lt hk)).mpr h)]; rfl
  · rw [if_neg h, if_neg (fun e => h ((ke_oz v (lin_lt (by omega)) (lin_lt hk)).mp e))]
theorem grk_mono {T : Nat → Int32} {n j : Nat} (v : VT T n) : ∀ k, j ≤ k → k < n → pz T (lin T n j) = pz T (lin T n k) → grk T n j ≤ grk T n k ∧ (grk T n j = grk T n k ↔ oz T (lin T n j) = oz T (lin T n k)) := by
  intro k
  induction k with
  | zero =>
    intro h _ _
    have : j = 0 := by omega
    subst this
    simp
  | succ k ih =>
    intro h hk hp
    rcases Nat.eq_or_lt_of_le h with rfl | h
    · simp
    · have h1 := lin_pz (T := T) (n := n) (j := j) (k := k) (by omega) (by omega)
      have h2 := lin_pz (T := T) (n := n) (j := k) (k := k + 1) (by omega) hk
      have hp1 : pz T (lin T n j) = pz T (lin T n k) := by omega
      have hp2 : pz T (lin T n k) = pz T (lin T n (k + 1)) := by omega
      obtain ⟨i1, i2⟩ := ih (by omega) (by omega) hp1
      have o1 := lin_oz (T := T) (n := n) (j := j) (k := k) (by omega) (by omega) hp1
      have o2 := lin_oz (T := T) (n := n) (j := k) (k := k + 1) (by omega) hk hp2
      rw [grk_step v hk hp2]
      by_cases h9 : oz T (lin T n k) = oz T (lin T n (k + 1))
      · rw [if_pos h9, ← h9]
        exact ⟨i1, i2⟩
      · rw [if_neg h9]
        exact ⟨by omega, by omega⟩
theorem grk_le (T : Nat → Int32) (n : Nat) : ∀ k, grk T n k ≤ k
  | 0 => Nat.le_refl _
  | k + 1 => by
    have ih := grk_le T n k
    rw [grk]
    split
    · split
      · exact Nat.le_succ_of_le ih
      · exact Nat.succ_le_succ ih
    · exact Nat.zero_le _
/-- the group of a row -/
def gr (T : Nat → Int32) (n r : Nat) : Nat := grk T n (pos T n r)
theorem gr_lt {T : Nat → Int32} {n e r : Nat} (v : VT T n) (he : e < n) (hr : r < n) (hp : pz T e = pz T r) : gr T n e < gr T n r ↔ oz T e < oz T r := by
  unfold gr
  have a1 := lin_pos (T := T) he
  have a2 := lin_pos (T := T) hr
  rcases Nat.le_total (pos T n e) (pos T n r) with h | h
  · have := grk_mono (T := T) v (pos T n r) h (pos_lt hr) (by rw [a1, a2]; exact hp)
    have o := lin_oz (T := T) h (pos_lt hr) (by rw [a1, a2]; exact hp)
    rw [a1, a2] at this o
    omega
  · have := grk_mono (T := T) v (pos T n e) h (pos_lt he) (by rw [a1, a2]; exact hp.symm)
    have o := lin_oz (T := T) h (pos_lt he) (by rw [a1, a2]; exact hp.symm)
    rw [a1, a2] at this o
    omega
/-- how many of the part stand ahead of the like ones -/
theorem gf_pf {T : Nat → Int32} {n r : Nat} (v : VT T n) (hr : r < n) : gf T n r = pf T n r + fb_ct (fun e => decide (pa T e = pa T r) && decide (gr T n e < gr T n r)) n := by
  unfold gf pf cf
  rw [← fb_ct_or (p := fun e => decide (pz T e < pz T r)) (q := fun e => decide (pa T e = pa T r) && decide (gr T n e < gr T n r)) (fun k _ h => by
    have h1 : pz T k < pz T r := by simpa using h.1
    have h2 : pa T k = pa T r := by have := h.2; simp at this; exact this.1
    have := pz_iff.mpr h2
    omega)]
  refine fb_ct_cong (fun k hk => ?_)
  have b1 := oz_b v hk
  have b2 := oz_b v hr
  rw [Bool.eq_iff_iff]
  simp only [decide_eq_true_eq, Bool.or_eq_true, Bool.and_eq_true]
  constructor
  · intro h
    by_cases hp : pz T k = pz T r
    · refine Or.inr ⟨pz_iff.mp hp, (gr_lt v hk hr hp).mpr ?_⟩
      unfold pk2 at h
      omega
    · unfold pk2 at h
      omega
  · rintro (h | ⟨h1, h2⟩)
    · unfold pk2; omega
    · have hp := pz_iff.mpr h1
      have := (gr_lt v hk hr hp).mp h2
      unfold pk2; omega
/-- what the mode counts by, at a place -/
def msz (T : Nat → Int32) (n k : Nat) : Int := if T 1 = 0 then (k : Int) - (pf T n (lin T n k) : Int) else if T 1 = 1 then oz T (lin T n k) else (grk T n k : Int)
def loz (T : Nat → Int32) (n r : Nat) : Int := if T 2 = 99 then -2000000 else if T 1 = 1 ∧ ke T r = 1000000 then msz T n (pos T n r) else msz T n (pos T n r) + (T 2).toInt
def hiz (T : Nat → Int32) (n r : Nat) : Int := if T 3 = 99 then 2000000 else if T 1 = 1 ∧ ke T r = 1000000 then msz T n (pos T n r) else msz T n (pos T n r) + (T 3).toInt
def outB (T : Nat → Int32) (r e : Nat) : Bool := decide ((T 4 = 1 ∧ e = r) ∨ (T 4 = 2 ∧ pa T r = pa T e ∧ ke T r = ke T e) ∨ (T 4 = 3 ∧ e ≠ r ∧ pa T r = pa T e ∧ ke T r = ke T e))
def inF (T : Nat → Int32) (n r k : Nat) : Bool := decide (pa T (lin T n k) = pa T r) && ((decide (loz T n r ≤ msz T n k) && decide (msz T n k ≤ hiz T n r)) && !outB T r (lin T n k))
def frL (T : Nat → Int32) (n r m : Nat) : List Nat := ((List.range m).filter (inF T n r)).map (lin T n)
theorem frL_0 (T : Nat → Int32) (n r : Nat) : frL T n r 0 = [] := rfl
theorem frL_s (T : Nat → Int32) (n r m : Nat) : frL T n r (m + 1) = frL T n r m ++ (if inF T n r m then [lin T n m] else []) := by
  unfold frL
  rw [List.range_succ, List.filter_append, List.map_append]
  by_cases h : inF T n r m = true
  · simp [h]
  · simp [h]
theorem frL_len (T : Nat → Int32) (n r : Nat) : ∀ m, (frL T n r m).length ≤ m
  | 0 => Nat.le_refl _
  | m + 1 => by
    have ih := frL_len T n r m
    rw [frL_s, List.length_append]
    split <;> simp <;> omega
theorem frL_mem {T : Nat → Int32} {n r m x : Nat} (hm : m ≤ n) (h : x ∈ frL T n r m) : x < n ∧ pa T x = pa T r := by
  unfold frL at h
  obtain ⟨k, hk, rfl⟩ := List.mem_map.mp h
  have h1 := List.mem_filter.mp hk
  have h2 := List.mem_range.mp h1.1
  have h3 := h1.2
  unfold inF at h3
  simp only [Bool.and_eq_true, decide_eq_true_eq] at h3
  exact ⟨lin_lt (by omega), h3.1⟩
theorem inF_out {T : Nat → Int32} {n r k : Nat} (hr : r < n) (hk : k < n) (h : k < pf T n r ∨ pf T n r + pm T n r ≤ k) : inF T n r k = false := by
  have h1 := cl_lin (pzK T n) hk hr
  have h2 : ¬ pa T (lin T n k) = pa T r := fun e => by
    have := h1.mp (pz_iff.mpr e)
    unfold pf pm at h
    omega
  unfold inF
  simp [h2]
theorem frL_lo {T : Nat → Int32} {n r : Nat} (hr : r < n) : ∀ m, m ≤ pf T n r → m ≤ n → frL T n r m = []
  | 0, _, _ => rfl
  | m + 1, h, hn => by
    rw [frL_s, frL_lo hr m (by omega) (by omega), inF_out hr (by omega) (Or.inl (by omega))]
    rfl
theorem frL_hi {T : Nat → Int32} {n r : Nat} (hr : r < n) {m : Nat} (h : pf T n r + pm T n r ≤ m) : ∀ j, m + j ≤ n → frL T n r (m + j) = frL T n r m
  | 0, _ => rfl
  | j + 1, hj => by
    rw [← Nat.add_assoc, frL_s, frL_hi hr h j (by omega), inF_out hr (by omega) (Or.inr (by omega))]
    simp
theorem part_le {T : Nat → Int32} {n r : Nat} : pf T n r + pm T n r ≤ n := cl_le
theorem frL_end {T : Nat → Int32} {n r : Nat} (hr : r < n) : frL T n r (pf T n r + pm T n r) = frL T n r n := by
  have h := part_le (T := T) (n := n) (r := r)
  have := frL_hi (T := T) hr (Nat.le_refl (pf T n r + pm T n r)) (n - (pf T n r + pm T n r)) (by omega)
  rw [show pf T n r + pm T n r + (n - (pf T n r + pm T n r)) = n by omega] at this
  exact this.symm
theorem pf_eq {T : Nat → Int32} {n e r : Nat} (h : pa T e = pa T r) : pf T n e = pf T n r := by unfold pf cf; rw [pz_iff.mpr h]
theorem pm_eq {T : Nat → Int32} {n e r : Nat} (h : pa T e = pa T r) : pm T n e = pm T n r := by unfold pm cm; rw [pz_iff.mpr h]
/-- a place in the part of a row -/
theorem in_part {T : Nat → Int32} {n r k : Nat} (hr : r < n) (hk : k < n) : pa T (lin T n k) = pa T r ↔ pf T n r ≤ k ∧ k < pf T n r + pm T n r := by
  rw [← pz_iff]
  exact cl_lin (pzK T n) hk hr
theorem pos_part {T : Nat → Int32} {n r : Nat} (hr : r < n) : pf T n r ≤ pos T n r ∧ pos T n r < pf T n r + pm T n r := cl_pos (pzK T n) hr
theorem msz_mono {T : Nat → Int32} {n r j k : Nat} (v : VT T n) (hr : r < n) (hj : pf T n r ≤ j) (hjk : j ≤ k) (hk : k < pf T n r + pm T n r) : msz T n j ≤ msz T n k := by
  have hn := part_le (T := T) (n := n) (r := r)
  have e1 := (in_part (T := T) hr (k := j) (by omega)).mpr ⟨hj, by omega⟩
  have e2 := (in_part (T := T) hr (k := k) (by omega)).mpr ⟨by omega, hk⟩
  have hp : pz T (lin T n j) = pz T (lin T n k) := pz_iff.mpr (e1.trans e2.symm)
  unfold msz
  split
  · rw [pf_eq e1, pf_eq e2]; omega
  · split
    · exact lin_oz hjk (by omega) hp
    · have := (grk_mono v k hjk (by omega) hp).1
      omega
theorem msz_b {T : Nat → Int32} {n k : Nat} (v : VT T n) (hk : k < n) : -1000000 ≤ msz T n k ∧ msz T n k ≤ 1000000 := by
  have h40 := v.2.1
  have h2 := grk_le T n k
  have h1 := oz_b v (lin_lt (T := T) hk)
  have h3 : pf T n (lin T n k) ≤ n := by have := part_le (T := T) (n := n) (r := lin T n k); omega
  unfold msz
  split
  · omega
  · split
    · exact h1
    · omega
theorem bnd_b {k : Int32} (h : isBndI k) (h9 : ¬ k = 99) : -20 ≤ k.toInt ∧ k.toInt ≤ 20 := by
  rcases h with h | h
  · exact absurd h h9
  · exact h
theorem loz_b {T : Nat → Int32} {n r : Nat} (v : VT T n) (hr : r < n) : -2000000 ≤ loz T n r ∧ loz T n r ≤ 1000020 := by
  have := msz_b v (pos_lt (T := T) hr)
  unfold loz
  split
  · omega
  · rename_i h
    have := bnd_b v.2.2.2.1 h
    split <;> omega
theorem hiz_b {T : Nat → Int32} {n r : Nat} (v : VT T n) (hr : r < n) : -1000020 ≤ hiz T n r ∧ hiz T n r ≤ 2000000 := by
  have := msz_b v (pos_lt (T := T) hr)
  unfold hiz
  split
  · omega
  · rename_i h
    have := bnd_b v.2.2.2.2.1 h
    split <;> omega
/-- a bound found by going up, or down -/
theorem from_ok {T : Nat → Int32} {n r f : Nat} {L : Int} (v : VT T n) (hr : r < n) (h1 : pf T n r ≤ f) (h2 : ∀ k, pf T n r ≤ k → k < f → msz T n k < L) (h3 : f < pf T n r + pm T n r → L ≤ msz T n f) {k : Nat} (hk : pf T n r ≤ k) (hk2 : k < pf T n r + pm T n r) : f ≤ k ↔ L ≤ msz T n k := by
  constructor
  · intro h
    have := msz_mono v hr h1 h hk2
    have := h3 (by omega)
    omega
  · intro h
    rcases Nat.lt_or_ge k f with q | q
    · have := h2 k hk q; omega
    · exact q
theorem to_ok {T : Nat → Int32} {n r t : Nat} {L : Int} (v : VT T n) (hr : r < n) (h1 : t ≤ pf T n r + pm T n r) (h2 : ∀ k, t ≤ k → k < pf T n r + pm T n r → L < msz T n k) (h3 : pf T n r < t → msz T n (t - 1) ≤ L) {k : Nat} (hk : pf T n r ≤ k) (hk2 : k < pf T n r + pm T n r) : k < t ↔ msz T n k ≤ L := by
  constructor
  · intro h
    have := msz_mono v hr hk (show k ≤ t - 1 by omega) (by omega)
    have := h3 (by omega)
    omega
  · intro h
    rcases Nat.lt_or_ge k t with q | q
    · exact q
    · have := h2 k q hk2; omega
