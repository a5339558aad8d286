/-! a table as one row of numbers: 0 how many, 1 mode, 2 begin, 3 end, 4 less, 5 ahead, 6.. parts, 46.. keys, 86.. worths -/
def pa (T : Nat → Int32) (r : Nat) : Int32 := T (6 + r)
def ke (T : Nat → Int32) (r : Nat) : Int32 := T (46 + r)
def wo (T : Nat → Int32) (r : Nat) : Int32 := T (86 + r)
/-- a key as it is put in order -/
def okk (T : Nat → Int32) (k : Int32) : Int32 := if k = 1000000 ∧ T 5 = 1 then -1000000 else k
def od (T : Nat → Int32) (r : Nat) : Int32 := okk T (ke T r)
def pz (T : Nat → Int32) (r : Nat) : Int := (pa T r).toInt
def oz (T : Nat → Int32) (r : Nat) : Int := (od T r).toInt
def isKeyI (k : Int32) : Prop := k = 1000000 ∨ (-99 ≤ k.toInt ∧ k.toInt ≤ 99)
def isWorI (k : Int32) : Prop := k = 1000000 ∨ (-999 ≤ k.toInt ∧ k.toInt ≤ 999)
def isBndI (k : Int32) : Prop := k = 99 ∨ (-20 ≤ k.toInt ∧ k.toInt ≤ 20)
/-- a table that the calls can make -/
def VT (T : Nat → Int32) (n : Nat) : Prop := T 0 = nI n ∧ n ≤ 40 ∧ (T 5 = 0 ∨ T 5 = 1) ∧ isBndI (T 2) ∧ isBndI (T 3) ∧ ∀ r, r < n → (0 ≤ pz T r ∧ pz T r ≤ 5) ∧ isKeyI (ke T r) ∧ isWorI (wo T r)
theorem okk_b {T : Nat → Int32} {k : Int32} (h : isKeyI k) : -1000000 ≤ (okk T k).toInt ∧ (okk T k).toInt ≤ 1000000 := by
  unfold okk
  split
  · decide
  · rcases h with rfl | h
    · decide
    · omega
theorem okk_inj {T : Nat → Int32} {k k' : Int32} (h : isKeyI k) (h' : isKeyI k') : okk T k = okk T k' ↔ k = k' := by
  constructor
  · intro e
    have e2 := congrArg Int32.toInt e
    unfold okk at e2
    have m1 : (-1000000 : Int32).toInt = -1000000 := by decide
    have m2 : (1000000 : Int32).toInt = 1000000 := by decide
    rcases h with rfl | h <;> rcases h' with rfl | h'
    · rfl
    · split at e2 <;> split at e2 <;> rename_i g1 g2 <;> simp only [m1, m2] at e2 <;> first | omega | (have g3 := congrArg Int32.toInt g2.1; omega)
    · split at e2 <;> split at e2 <;> rename_i g1 g2 <;> simp only [m1, m2] at e2 <;> first | omega | (have g3 := congrArg Int32.toInt g1.1; omega)
    · split at e2 <;> split at e2 <;> rename_i g1 g2
      · exact g1.1.trans g2.1.symm
      · have g3 := congrArg Int32.toInt g1.1; omega
      · have g3 := congrArg Int32.toInt g2.1; omega
      · exact Int32.toInt_inj.mp e2
  · rintro rfl; rfl
/-- which of two rows stands ahead -/
def bf (T : Nat → Int32) (e r : Nat) : Bool := decide (pz T e < pz T r ∨ (pz T e = pz T r ∧ (oz T e < oz T r ∨ (oz T e = oz T r ∧ e < r))))
theorem bf_iff {T : Nat → Int32} {e r : Nat} : bf T e r = true ↔ (pz T e < pz T r ∨ (pz T e = pz T r ∧ (oz T e < oz T r ∨ (oz T e = oz T r ∧ e < r)))) := by simp [bf]
theorem bf_ir (T : Nat → Int32) (r : Nat) : bf T r r = false := by
  simp [bf]
theorem bf_tot {T : Nat → Int32} {e r : Nat} (h : e ≠ r) : bf T e r = true ∨ bf T r e = true := by
  rw [bf_iff, bf_iff]; omega
theorem bf_as {T : Nat → Int32} {e r : Nat} (h : bf T e r = true) : bf T r e = false := by
  rw [bf_iff] at h
  have : ¬ bf T r e = true := by rw [bf_iff]; omega
  simpa using this
theorem bf_tr {T : Nat → Int32} {a b c : Nat} (h : bf T a b = true) (h2 : bf T b c = true) : bf T a c = true := by
  rw [bf_iff] at h h2 ⊢; omega
theorem ct_lt {p q : Nat → Bool} {n k : Nat} (h : ∀ i, i < n → p i = true → q i = true) (hk : k < n) (hp : p k = false) (hq : q k = true) : fb_ct p n < fb_ct q n := by
  have h1 : fb_ct p n + 1 ≤ fb_ct q n := by
    have h2 := fb_ct_upd p true hk
    have h3 : fb_ct (fun i => if i = k then true else p i) n ≤ fb_ct q n := fb_ct_sub (fun i hi h4 => by
      by_cases e : i = k
      · subst e; exact hq
      · simp only [e, if_false] at h4; exact h i hi h4)
    rw [if_neg (by rw [hp]; decide), if_pos rfl] at h2
    omega
  omega
theorem ct_false {n : Nat} {p : Nat → Bool} (h : ∀ k, k < n → p k = false) : fb_ct p n = 0 := fb_ct_zero.mpr h
/-- how many stand ahead -/
def pos (T : Nat → Int32) (n r : Nat) : Nat := fb_ct (fun e => bf T e r) n
theorem pos_lt {T : Nat → Int32} {n r : Nat} (h : r < n) : pos T n r < n := by
  have h1 := ct_lt (p := fun e => bf T e r) (q := fun _ => true) (n := n) (fun _ _ _ => rfl) h (bf_ir T r) rfl
  have h2 : fb_ct (fun _ => true) n ≤ n := fb_ct_le _ n
  unfold pos
  omega
theorem pos_mono {T : Nat → Int32} {n e r : Nat} (he : e < n) (h : bf T e r = true) : pos T n e < pos T n r :=
  ct_lt (fun _ _ h2 => bf_tr h2 h) he (bf_ir T e) h
theorem pos_inj {T : Nat → Int32} {n e r : Nat} (he : e < n) (hr : r < n) (h : pos T n e = pos T n r) : e = r := by
  by_cases q : e = r
  · exact q
  · rcases bf_tot (T := T) q with h2 | h2
    · have := pos_mono he h2; omega
    · have := pos_mono hr h2; omega
theorem pos_iff {T : Nat → Int32} {n e r : Nat} (he : e < n) (hr : r < n) : pos T n e < pos T n r ↔ bf T e r = true := by
  constructor
  · intro h
    by_cases q : e = r
    · subst q; omega
    · rcases bf_tot (T := T) q with h2 | h2
      · exact h2
      · have := pos_mono hr h2; omega
  · exact pos_mono he
theorem pos_onto {T : Nat → Int32} {n k : Nat} (hk : k < n) : ∃ r, r < n ∧ pos T n r = k :=
  fb_onto (fun i hi => pos_lt hi) (fun i j hij hj e => by have := pos_inj (by omega) hj e; omega) hk
/-- the row at a place -/
def lin (T : Nat → Int32) (n k : Nat) : Nat := ((List.range n).find? (fun e => pos T n e == k)).getD 0
theorem lin_ok {T : Nat → Int32} {n k : Nat} (hk : k < n) : lin T n k < n ∧ pos T n (lin T n k) = k := by
  unfold lin
  cases hf : (List.range n).find? (fun e => pos T n e == k) with
  | none =>
    obtain ⟨r, hr, h2⟩ := pos_onto (T := T) hk
    have := List.find?_eq_none.mp hf r (List.mem_range.mpr hr)
    simp [h2] at this
  | some e =>
    have h1 := List.find?_some hf
    have h2 := List.mem_of_find?_eq_some hf
    exact ⟨List.mem_range.mp h2, by simpa using h1⟩
theorem lin_lt {T : Nat → Int32} {n k : Nat} (hk : k < n) : lin T n k < n := (lin_ok hk).1
theorem pos_lin {T : Nat → Int32} {n k : Nat} (hk : k < n) : pos T n (lin T n k) = k := (lin_ok hk).2
theorem lin_pos {T : Nat → Int32} {n r : Nat} (hr : r < n) : lin T n (pos T n r) = r := pos_inj (lin_lt (pos_lt hr)) hr (pos_lin (pos_lt hr))
theorem lin_bf {T : Nat → Int32} {n j k : Nat} (hj : j < n) (hk : k < n) : j < k ↔ bf T (lin T n j) (lin T n k) = true := by
  rw [← pos_iff (lin_lt hj) (lin_lt hk), pos_lin hj, pos_lin hk]
/-- classes of rows that stand side by side: by a number that rises with the order -/
def cf (K : Nat → Int) (n r : Nat) : Nat := fb_ct (fun e => decide (K e < K r)) n
def cm (K : Nat → Int) (n r : Nat) : Nat := fb_ct (fun e => decide (K e = K r)) n
theorem cfm (K : Nat → Int) (n r : Nat) : cf K n r + cm K n r = fb_ct (fun e => decide (K e ≤ K r)) n := by
  unfold cf cm
  rw [← fb_ct_or (p := fun e => decide (K e < K r)) (q := fun e => decide (K e = K r)) (fun k _ h => by simp at h; omega)]
  refine fb_ct_cong (fun k _ => ?_)
  rw [Bool.eq_iff_iff]
  simp
  omega
theorem cl_pos {T : Nat → Int32} {K : Nat → Int} {n r : Nat} (hK : ∀ e r, e < n → r < n → bf T e r = true → K e ≤ K r) (hr : r < n) : cf K n r ≤ pos T n r ∧ pos T n r < cf K n r + cm K n r := by
  constructor
  · refine fb_ct_sub (fun e he h => ?_)
    have h : K e < K r := by simpa using h
    rcases bf_tot (T := T) (e := e) (r := r) (by rintro rfl; omega) with h2 | h2
    · exact h2
    · have := hK _ _ hr he h2; omega
  · rw [cfm]
    refine ct_lt (fun e he h => ?_) hr (bf_ir T r) (by simp)
    have := hK _ _ he hr h
    simpa using this
theorem cl_iff {T : Nat → Int32} {K : Nat → Int} {n e r : Nat} (hK : ∀ e r, e < n → r < n → bf T e r = true → K e ≤ K r) (he : e < n) (hr : r < n) : K e = K r ↔ cf K n r ≤ pos T n e ∧ pos T n e < cf K n r + cm K n r := by
  have h1 := cl_pos hK he
  constructor
  · intro h
    have e1 : cf K n e = cf K n r := by unfold cf; rw [h]
    have e2 : cm K n e = cm K n r := by unfold cm; rw [h]
    rw [e1, e2] at h1
    exact h1
  · intro h
    rcases Int.lt_trichotomy (K e) (K r) with g | g | g
    · have h2 : fb_ct (fun a => decide (K a ≤ K e)) n ≤ cf K n r := fb_ct_sub (fun a _ h3 => by simp at h3 ⊢; omega)
      rw [← cfm] at h2
      omega
    · exact g
    · have h2 : fb_ct (fun a => decide (K a ≤ K r)) n ≤ cf K n e := fb_ct_sub (fun a _ h3 => by simp at h3 ⊢; omega)
      rw [← cfm] at h2
      omega
theorem cl_lin {T : Nat → Int32} {K : Nat → Int} {n k r : Nat} (hK : ∀ e r, e < n → r < n → bf T e r = true → K e ≤ K r) (hk : k < n) (hr : r < n) : K (lin T n k) = K r ↔ cf K n r ≤ k ∧ k < cf K n r + cm K n r := by
  have := cl_iff hK (lin_lt (T := T) hk) hr
  rw [pos_lin hk] at this
  exact this
theorem cl_le {K : Nat → Int} {n r : Nat} : cf K n r + cm K n r ≤ n := by rw [cfm]; exact fb_ct_le _ _
/-- parts -/
def pf (T : Nat → Int32) (n r : Nat) : Nat := cf (pz T) n r
def pm (T : Nat → Int32) (n r : Nat) : Nat := cm (pz T) n r
theorem pzK (T : Nat → Int32) (n : Nat) : ∀ e r, e < n → r < n → bf T e r = true → pz T e ≤ pz T r := fun e r _ _ h => by rw [bf_iff] at h; omega
/-- like ones -/
def pk2 (T : Nat → Int32) (r : Nat) : Int := pz T r * 4000000 + oz T r
def gf (T : Nat → Int32) (n r : Nat) : Nat := cf (pk2 T) n r
def gm (T : Nat → Int32) (n r : Nat) : Nat := cm (pk2 T) n r
theorem oz_b {T : Nat → Int32} {n r : Nat} (v : VT T n) (hr : r < n) : -1000000 ≤ oz T r ∧ oz T r ≤ 1000000 := okk_b (v.2.2.2.2.2 r hr).2.1
theorem pkK {T : Nat → Int32} {n : Nat} (v : VT T n) : ∀ e r, e < n → r < n → bf T e r = true → pk2 T e ≤ pk2 T r := fun e r he hr h => by
  rw [bf_iff] at h
  have := oz_b v he
  have := oz_b v hr
  unfold pk2
  omega
theorem pk_iff {T : Nat → Int32} {n e r : Nat} (v : VT T n) (he : e < n) (hr : r < n) : pk2 T e = pk2 T r ↔ pa T e = pa T r ∧ ke T e = ke T r := by
  have h1 := oz_b v he
  have h2 := oz_b v hr
  have h3 : pk2 T e = pk2 T r ↔ pz T e = pz T r ∧ oz T e = oz T r := by unfold pk2; omega
  rw [h3]
  unfold pz oz od
  rw [Int32.toInt_inj, Int32.toInt_inj, okk_inj (v.2.2.2.2.2 e he).2.1 (v.2.2.2.2.2 r hr).2.1]
theorem pz_iff {T : Nat → Int32} {e r : Nat} : pz T e = pz T r ↔ pa T e = pa T r := Int32.toInt_inj
