/-! what each call answers and makes, of: the table, how many rows, the latest tables, the images, the book, the seed -/
abbrev Sg : Type := (Nat → Int32) × Nat × List (Nat → Int32) × (Nat → Option ((Nat → Int32) × Int32)) × List (Nat × Int32 × Int32) × Int32
def okr (n : Nat) (r : Int32) : Bool := decide (¬ r < 0) && decide (r < nI n)
theorem okr_t {n : Nat} {r : Int32} (h : okr n r = true) (hn : n ≤ 40) : ∃ j, j < n ∧ r = nI j ∧ r.toNatClampNeg = j := by
  unfold okr at h
  simp only [Bool.and_eq_true, decide_eq_true_eq] at h
  obtain ⟨j, h1, rfl⟩ := nI_of h.1
  exact ⟨j, (nI_ltI h1 (by omega)).mp h.2, rfl, nI_clamp h1⟩
theorem okr_f {n : Nat} {r : Int32} (h : okr n r = false) : r < 0 ∨ nI n ≤ r := by
  unfold okr at h
  by_cases h0 : r < 0
  · exact Or.inl h0
  · simp [h0] at h
    exact Or.inr h
theorem okr_j {n j : Nat} (hj : j < n) (hn : n ≤ 40) : okr n (nI j) = true := by
  unfold okr
  simp only [Bool.and_eq_true, decide_eq_true_eq]
  exact ⟨nI_pos (by omega), nI_lt hj (by omega)⟩
def wth (x a b : Int32) : Bool := decide (a ≤ x) && decide (x ≤ b)
def isKeyB (k : Int32) : Bool := decide (k = 1000000) || wth k (-99) 99
def isWorB (k : Int32) : Bool := decide (k = 1000000) || wth k (-999) 999
def isBndB (k : Int32) : Bool := decide (k = 99) || wth k (-20) 20
theorem wth_i {x a b : Int32} : wth x a b = true ↔ a.toInt ≤ x.toInt ∧ x.toInt ≤ b.toInt := by
  unfold wth; simp only [Bool.and_eq_true, decide_eq_true_eq, fa_le]
theorem isKeyB_i {k : Int32} : isKeyB k = true ↔ isKeyI k := by
  unfold isKeyB isKeyI
  rw [Bool.or_eq_true, decide_eq_true_eq, wth_i]; rfl
theorem isWorB_i {k : Int32} : isWorB k = true ↔ isWorI k := by
  unfold isWorB isWorI
  rw [Bool.or_eq_true, decide_eq_true_eq, wth_i]; rfl
theorem isBndB_i {k : Int32} : isBndB k = true ↔ isBndI k := by
  unfold isBndB isBndI
  rw [Bool.or_eq_true, decide_eq_true_eq, wth_i]; rfl
def prts (T : Nat → Int32) (n : Nat) : Nat := fb_ct (fun r => decide (pos T n r - pf T n r = 0)) n
def grps (T : Nat → Int32) (n : Nat) : Nat := fb_ct (fun r => decide (gf T n r = pos T n r)) n
def f_told (σ : Sg) (w : Int32) : Int32 :=
  if w = 0 then nI σ.2.1 else if w = 1 then nI (prts σ.1 σ.2.1) else if w = 2 then nI (grps σ.1 σ.2.1) else if w = 3 then σ.1 1 else if w = 4 then σ.1 2 + 100 else if w = 5 then σ.1 3 + 100 else if w = 6 then σ.1 4 else if w = 7 then σ.1 5 else if w = 8 then nI (alk σ.1 σ.2.1 σ.2.1) else if w = 9 then nI σ.2.2.2.2.1.length else if w = 10 then wrg σ.1 σ.2.1 σ.2.2.2.2.1 else if w = 11 then nI σ.2.2.1.length else -1000000002
def chg (T : Nat → Int32) (n j : Nat) : Nat := fb_ct (fun r => decide (¬ r = j) && decide (¬ ans T n r 2 = ans (dropT T n j) (n - 1) (if r < j then r else r - 1) 2)) n
def f_row (σ : Sg) (r w : Int32) : Int32 :=
  if okr σ.2.1 r = false then -1000000001
  else if w = 0 then pa σ.1 r.toNatClampNeg else if w = 1 then ke σ.1 r.toNatClampNeg else if w = 2 then wo σ.1 r.toNatClampNeg
  else if w = 3 then nI (pos σ.1 σ.2.1 r.toNatClampNeg - pf σ.1 σ.2.1 r.toNatClampNeg)
  else if w = 4 then nI (1 + (gf σ.1 σ.2.1 r.toNatClampNeg - pf σ.1 σ.2.1 r.toNatClampNeg))
  else if w = 5 then nI (1 + gr σ.1 σ.2.1 r.toNatClampNeg)
  else if w = 6 then nI (gm σ.1 σ.2.1 r.toNatClampNeg)
  else if w = 7 then nI (pos σ.1 σ.2.1 r.toNatClampNeg)
  else if w = 8 then nI (chg σ.1 σ.2.1 r.toNatClampNeg)
  else -1000000002
def f_standing (σ : Sg) (k : Int32) : Int32 := if okr σ.2.1 k = false then -1 else nI (lin σ.1 σ.2.1 k.toNatClampNeg)
def tk (T : Nat → Int32) (P : List (Nat → Int32)) : List (Nat → Int32) := (T :: P).take 20
def f_put (σ : Sg) (p k w : Int32) : Int32 × Sg :=
  if (wth p 0 5 && isKeyB k && isWorB w) = false then (-1000000002, σ)
  else if 40 ≤ σ.2.1 then (-1000000004, σ)
  else (nI σ.2.1, (addT σ.1 σ.2.1 p k w, σ.2.1 + 1, tk σ.1 σ.2.2.1, σ.2.2.2))
def f_take (σ : Sg) (r : Int32) : Int32 × Sg :=
  if okr σ.2.1 r = false then (-1000000001, σ)
  else (nI (σ.2.1 - 1), (dropT σ.1 σ.2.1 r.toNatClampNeg, σ.2.1 - 1, tk σ.1 σ.2.2.1, σ.2.2.2))
def f_change (σ : Sg) (r k w : Int32) : Int32 × Sg :=
  if okr σ.2.1 r = false then (-1000000001, σ)
  else if (isKeyB k && isWorB w) = false then (-1000000002, σ)
  else (if pos (chgT σ.1 r.toNatClampNeg k w) σ.2.1 r.toNatClampNeg = pos σ.1 σ.2.1 r.toNatClampNeg then 0 else 1, (chgT σ.1 r.toNatClampNeg k w, σ.2.1, tk σ.1 σ.2.2.1, σ.2.2.2))
def f_frame (σ : Sg) (m b e l : Int32) : Int32 × Sg :=
  if (wth m 0 2 && isBndB b && isBndB e && wth l 0 3) = false then (-1000000002, σ)
  else (nI (fb_sm (fun r => (frL (frmT σ.1 m b e l) σ.2.1 r σ.2.1).length) σ.2.1), (frmT σ.1 m b e l, σ.2.1, tk σ.1 σ.2.2.1, σ.2.2.2))
def f_ahead (σ : Sg) (a : Int32) : Int32 × Sg :=
  (nI (fb_ct (fun r => decide (¬ pos (ahdT σ.1 a) σ.2.1 r = pos σ.1 σ.2.1 r)) σ.2.1), (ahdT σ.1 a, σ.2.1, tk σ.1 σ.2.2.1, σ.2.2.2))
def dw (s : Int32) : Int32 := ((s.toInt64 * 1103515245 + 12345) &&& 2147483647).toInt32
def dv (s n : Int32) : Int32 := s / 65536 - s / 65536 / n * n
def f_d1 (σ : Sg) : Sg :=
  (addT σ.1 σ.2.1 (dv (dw σ.2.2.2.2.2) 3) (if dv (dw (dw σ.2.2.2.2.2)) 12 = 11 then 1000000 else dv (dw (dw σ.2.2.2.2.2)) 12) (if dv (dw (dw (dw σ.2.2.2.2.2))) 21 = 20 then 1000000 else dv (dw (dw (dw σ.2.2.2.2.2))) 21 - 10), σ.2.1 + 1, tk σ.1 σ.2.2.1, σ.2.2.2.1, σ.2.2.2.2.1, dw (dw (dw σ.2.2.2.2.2)))
def f_dn (σ : Sg) : Nat → Sg
  | 0 => σ
  | m + 1 => if (f_dn σ m).2.1 < 40 then f_d1 (f_dn σ m) else f_dn σ m
def f_drift (σ : Sg) (c : Int32) : Int32 × Sg :=
  if wth c 1 20 = false then (-1000000002, σ) else (nI (f_dn σ c.toNatClampNeg).2.1, f_dn σ c.toNatClampNeg)
def f_undo (σ : Sg) (c : Int32) : Int32 × Sg :=
  if wth c 1 20 = false then (-1000000002, σ)
  else match σ.2.2.1[c.toNatClampNeg - 1]? with
    | none => (-1000000003, σ)
    | some T => (T 0, (T, (T 0).toNatClampNeg, σ.2.2.1.drop c.toNatClampNeg, σ.2.2.2))
def f_of (σ : Sg) (r w : Int32) : Int32 := if okr σ.2.1 r = false then -1000000001 else if wth w 0 8 = false then -1000000002 else ans σ.1 σ.2.1 r.toNatClampNeg w
def f_rows (σ : Sg) (r : Int32) : Int64 := if okr σ.2.1 r = false then 0 else stF σ.1 σ.2.1 r.toNatClampNeg
def f_inFrame (σ : Sg) (r k : Int32) : Int32 := if okr σ.2.1 r = false then -1000000001 else rwI (frL σ.1 σ.2.1 r.toNatClampNeg σ.2.1) k
def hpv (p m k : Nat) : Nat := if p < m % k * (m / k + 1) ∨ m / k < 1 then p / (m / k + 1) else m % k + (p - m % k * (m / k + 1)) / (m / k)
def f_heap (σ : Sg) (r k : Int32) : Int32 := if okr σ.2.1 r = false then -1000000001 else if wth k 1 20 = false then -1000000002 else nI (hpv (pos σ.1 σ.2.1 r.toNatClampNeg - pf σ.1 σ.2.1 r.toNatClampNeg) (pm σ.1 σ.2.1 r.toNatClampNeg) k.toNatClampNeg)
def shv (T : Nat → Int32) (n r : Nat) (d : Int) : Int32 := if (pf T n r : Int) ≤ (pos T n r : Int) + d ∧ (pos T n r : Int) + d < (pf T n r : Int) + (pm T n r : Int) then nI (lin T n ((pos T n r : Int) + d).toNat) else -1
def f_shift (σ : Sg) (r d : Int32) : Int32 := if okr σ.2.1 r = false then -1000000001 else if wth d (-20) 20 = false then -1000000002 else shv σ.1 σ.2.1 r.toNatClampNeg d.toInt
def wgt (x : Int32) : Int32 := if x = 1000000 then -1000000 else x
/-- the best of the first m rows, and its weight -/
def bst (T : Nat → Int32) (n : Nat) (w : Int32) : Nat → Int32 × Int32
  | 0 => (-1, -2000000)
  | m + 1 => if (bst T n w m).2 < wgt (ans T n m w) then (nI m, wgt (ans T n m w)) else bst T n w m
def f_best (σ : Sg) (w : Int32) : Int32 := if wth w 0 8 = false then -1000000002 else (bst σ.1 σ.2.1 w σ.2.1).1
def wldB (T : Nat → Int32) (p k : Int32) (e : Nat) : Bool := decide (p.toInt < pz T e ∨ (p.toInt = pz T e ∧ (okk T k).toInt < oz T e))
def f_would (σ : Sg) (p k : Int32) : Int32 := if (wth p 0 5 && isKeyB k) = false then -1000000002 else nI (fb_ct (fun e => !wldB σ.1 p k e) σ.2.1)
def f_write (σ : Sg) (r w v : Int32) : Int32 × Sg :=
  if okr σ.2.1 r = false then (-1000000001, σ) else if wth w 0 8 = false then (-1000000002, σ)
  else if 20 ≤ σ.2.2.2.2.1.length then (-1000000004, σ)
  else (nI (σ.2.2.2.2.1.length + 1), (σ.1, σ.2.1, σ.2.2.1, σ.2.2.2.1, σ.2.2.2.2.1 ++ [(r.toNatClampNeg, w, v)], σ.2.2.2.2.2))
def f_tear (σ : Sg) : Int32 × Sg := (nI σ.2.2.2.2.1.length, (σ.1, σ.2.1, σ.2.2.1, σ.2.2.2.1, [], σ.2.2.2.2.2))
def f_seed (σ : Sg) (v : Int32) : Int32 × Sg := if 0 ≤ v then (σ.2.2.2.2.2, (σ.1, σ.2.1, σ.2.2.1, σ.2.2.2.1, σ.2.2.2.2.1, v)) else (-1000000002, σ)
def f_keep (σ : Sg) (i : Int32) : Int32 × Sg :=
  if wth i 0 1 = false then (-1000000001, σ) else (1, (σ.1, σ.2.1, [], (fun j => if j = i.toNatClampNeg then some (σ.1, σ.2.2.2.2.2) else σ.2.2.2.1 j), σ.2.2.2.2.1, σ.2.2.2.2.2))
def f_goBack (σ : Sg) (i : Int32) : Int32 × Sg :=
  if wth i 0 1 = false then (-1000000001, σ) else match σ.2.2.2.1 i.toNatClampNeg with
    | none => (-1000000003, σ)
    | some q => (1, (q.1, (q.1 0).toNatClampNeg, [], σ.2.2.2.1, σ.2.2.2.2.1, q.2))
/-- the class's cells hold the state -/
def ImgOf (D : Nat → Nat → Int32) (I : Nat → Option ((Nat → Int32) × Int32)) : Prop := ∀ i, i < 2 → (I i = none → D (114 + 5 * i) 2 = 0) ∧ ∀ q, I i = some q → D (114 + 5 * i) 2 = 1 ∧ TabOf D (114 + 5 * i + 1) q.1 ∧ D (114 + 5 * i) 1 = q.2
/-- what holds of every state -/
def SgOk (σ : Sg) : Prop := VT σ.1 σ.2.1 ∧ (∀ U, U ∈ σ.2.2.1 → ∃ m, VT U m) ∧ (∀ i q, i < 2 → σ.2.2.2.1 i = some q → (∃ m, VT q.1 m) ∧ 0 ≤ q.2.toInt) ∧ σ.2.2.1.length ≤ 20 ∧ σ.2.2.2.2.1.length ≤ 20 ∧ (∀ q, q ∈ σ.2.2.2.2.1 → q.1 < 40) ∧ 0 ≤ σ.2.2.2.2.2.toInt
def XR (D : Nat → Nat → Int32) (σ : Sg) : Prop := TabOf D 3 σ.1 ∧ OrdOf D 1 σ.1 σ.2.1 ∧ HisOf D σ.2.2.1 ∧ ImgOf D σ.2.2.2.1 ∧ BookOf D σ.2.2.2.2.1 ∧ D 0 9 = σ.2.2.2.2.2
theorem ImgOf.of {D D' : Nat → Nat → Int32} {I : Nat → Option ((Nat → Int32) × Int32)} (h : ImgOf D I) (h0 : ∀ a, 114 ≤ a → a < 124 → D' a = D a) : ImgOf D' I := by
  intro i hi
  obtain ⟨h1, h2⟩ := h i hi
  rw [h0 (114 + 5 * i) (by omega) (by omega)]
  exact ⟨h1, fun q hq => ⟨(h2 q hq).1, (h2 q hq).2.1.of (h0 _ (by omega) (by omega)) (h0 _ (by omega) (by omega)) (h0 _ (by omega) (by omega)) (h0 _ (by omega) (by omega)), (h2 q hq).2.2⟩⟩
/-- rows of numbers that calls leave as they please: the lenses' and the second order -/
theorem XR.of {D D' : Nat → Nat → Int32} {σ : Sg} (h : XR D σ) (h0 : ∀ a, a ≠ 1 → a ≠ 11 → a ≠ 12 → (a < 14 ∨ 27 ≤ a) → a < 124 → D' a = D a) : XR D' σ := by
  obtain ⟨h1, h2, h3, h4, h5, h6⟩ := h
  have k : ∀ a, a ≠ 1 → a ≠ 11 → a ≠ 12 → (a < 14 ∨ 27 ≤ a) → a < 124 → D' a = D a := h0
  refine ⟨h1.of ?_ ?_ ?_ ?_, h2.of ?_ ?_ ?_ ?_, h3.of (fun a g1 g2 => k a (by omega) (by omega) (by omega) (by omega) (by omega)), h4.of (fun a g1 g2 => k a (by omega) (by omega) (by omega) (by omega) (by omega)), h5.of ?_ ?_ ?_ ?_, ?_⟩
  any_goals exact k _ (by omega) (by omega) (by omega) (by omega) (by omega)
  rw [k 0 (by omega) (by omega) (by omega) (by omega) (by omega)]; exact h6
def KX (D D' : Nat → Nat → Int32) (J J' : Nat → Nat → Int64) : Prop := (∀ a, 124 ≤ a → D' a = D a) ∧ ∀ a, 124 ≤ a → J' a = J a
