/-! rows of numbers held in arrays; worths, put in order; what is said of a frame -/
def hold (a : Nat → Int32) (L : List Int32) : Prop := ∀ (j : Nat) (x : Int32), L[j]? = some x → a j = x
def holN (a : Nat → Int32) (L : List Nat) : Prop := ∀ (j : Nat) (x : Nat), L[j]? = some x → a j = nI x
theorem hold_nil (a : Nat → Int32) : hold a [] := fun j x h => by simp at h
theorem holN_nil (a : Nat → Int32) : holN a [] := fun j x h => by simp at h
theorem hold_get {a : Nat → Int32} {L : List Int32} (h : hold a L) {j : Nat} (hj : j < L.length) (z : Int32) : a j = L.getD j z := by
  rw [h j L[j] (List.getElem?_eq_getElem hj), List.getD_eq_getElem?_getD, List.getElem?_eq_getElem hj]; rfl
theorem holN_get {a : Nat → Int32} {L : List Nat} (h : holN a L) {j : Nat} (hj : j < L.length) (z : Nat) : a j = nI (L.getD j z) := by
  rw [h j L[j] (List.getElem?_eq_getElem hj), List.getD_eq_getElem?_getD, List.getElem?_eq_getElem hj]; rfl
theorem hold_push {a : Nat → Int32} {L : List Int32} {m : Nat} (x : Int32) (h : hold a L) (hm : L.length = m) : hold (upd a m x) (L ++ [x]) := by
  subst hm
  intro j y hj
  by_cases q : j < L.length
  · rw [List.getElem?_append_left q] at hj
    rw [pk_un (by omega)]
    exact h j y hj
  · rw [List.getElem?_append_right (by omega)] at hj
    have : j - L.length < 1 := (List.getElem?_eq_some_iff.mp hj).1
    have e : j = L.length := by omega
    subst e
    simp at hj
    rw [pk_us, hj]
theorem holN_push {a : Nat → Int32} {L : List Nat} {m : Nat} (x : Nat) (h : holN a L) (hm : L.length = m) : holN (upd a m (nI x)) (L ++ [x]) := by
  subst hm
  intro j y hj
  by_cases q : j < L.length
  · rw [List.getElem?_append_left q] at hj
    rw [pk_un (by omega)]
    exact h j y hj
  · rw [List.getElem?_append_right (by omega)] at hj
    have : j - L.length < 1 := (List.getElem?_eq_some_iff.mp hj).1
    have e : j = L.length := by omega
    subst e
    simp at hj
    rw [pk_us, hj]
def wl (T : Nat → Int32) (L : List Nat) : List Int32 := (L.map (wo T)).filter (fun x => decide (¬ x = 1000000))
theorem wl_push (T : Nat → Int32) (L : List Nat) (x : Nat) : wl T (L ++ [x]) = wl T L ++ (if wo T x = 1000000 then [] else [wo T x]) := by
  unfold wl
  rw [List.map_append, List.filter_append]
  by_cases h : wo T x = 1000000
  · simp [h]
  · simp [h]
theorem wl_len (T : Nat → Int32) (L : List Nat) : (wl T L).length ≤ L.length := by
  unfold wl
  exact Nat.le_trans (List.length_filter_le _ _) (by rw [List.length_map]; exact Nat.le_refl _)
def stp (S : List Int32) (x : Int32) : Nat → Nat
  | 0 => 0
  | e + 1 => if x < S.getD e 0 then stp S x e else e + 1
theorem stp_le (S : List Int32) (x : Int32) : ∀ e, stp S x e ≤ e
  | 0 => Nat.le_refl _
  | e + 1 => by
    have ih := stp_le S x e
    rw [stp]
    split
    · exact Nat.le_succ_of_le ih
    · exact Nat.le_refl _
/-- a number put into a row, from behind -/
def isr (S : List Int32) (x : Int32) : List Int32 := S.take (stp S x S.length) ++ x :: S.drop (stp S x S.length)
def srt (W : List Int32) : List Int32 := W.foldl isr []
theorem srt_push (W : List Int32) (x : Int32) : srt (W ++ [x]) = isr (srt W) x := by unfold srt; rw [List.foldl_append]; rfl
theorem isr_len (S : List Int32) (x : Int32) : (isr S x).length = S.length + 1 := by
  have := stp_le S x S.length
  unfold isr
  simp
  omega
theorem srt_len (W : List Int32) : (srt W).length = W.length := by
  have h : ∀ (W S : List Int32), (W.foldl isr S).length = S.length + W.length := by
    intro W
    induction W with
    | nil => intro S; simp
    | cons x W ih => intro S; rw [List.foldl_cons, ih, isr_len, List.length_cons]; omega
  have := h W []
  simpa [srt] using this
def smL (W : List Int32) : Int32 := W.foldl (fun a b => a + b) 0
theorem smL_app (A B : List Int32) : smL (A ++ B) = smL A + smL B := by
  have h : ∀ (B : List Int32) (a : Int32), B.foldl (fun a b => a + b) a = a + B.foldl (fun a b => a + b) 0 := by
    intro B
    induction B with
    | nil => intro a; simp
    | cons x B ih =>
      intro a
      rw [List.foldl_cons, ih (a + x), List.foldl_cons, ih (0 + x), Int32.zero_add, Int32.add_assoc]
  unfold smL
  rw [List.foldl_append, h]
theorem smL_1 (x : Int32) : smL [x] = x := by simp [smL]
theorem smL_isr (S : List Int32) (x : Int32) : smL (isr S x) = smL S + x := by
  unfold isr
  rw [smL_app, show x :: S.drop (stp S x S.length) = [x] ++ S.drop (stp S x S.length) from rfl, smL_app, smL_1]
  have h : smL S = smL (S.take (stp S x S.length)) + smL (S.drop (stp S x S.length)) := by rw [← smL_app, List.take_append_drop]
  rw [h, Int32.add_comm x, Int32.add_assoc]
theorem smL_srt (W : List Int32) : smL (srt W) = smL W := by
  have h : ∀ (W S : List Int32), smL (W.foldl isr S) = smL S + smL W := by
    intro W
    induction W with
    | nil => intro S; simp [smL]
    | cons x W ih =>
      intro S
      rw [List.foldl_cons, ih, smL_isr, show x :: W = [x] ++ W from rfl, smL_app, smL_1, Int32.add_assoc]
  have := h W []
  unfold srt
  rw [this]
  show 0 + _ = _
  rw [Int32.zero_add]
theorem smL_take (W : List Int32) {k : Nat} (hk : k < W.length) : smL (W.take (k + 1)) = smL (W.take k) + W.getD k 0 := by
  rw [List.take_succ_eq_append_getElem hk, smL_app, smL_1, List.getD_eq_getElem?_getD, List.getElem?_eq_getElem hk]
  rfl
def ulk (S : List Int32) (m : Nat) : Nat := fb_ct (fun i => decide (i = 0 ∨ ¬ S.getD i 0 = S.getD (i - 1) 0)) m
/-- of a frame -/
def ans (T : Nat → Int32) (n r : Nat) (w : Int32) : Int32 :=
  if w = 0 then nI (frL T n r n).length
  else if w = 1 then nI (wl T (frL T n r n)).length
  else if w = 2 then smL (wl T (frL T n r n))
  else if w = 3 then (srt (wl T (frL T n r n))).getD 0 1000000
  else if w = 4 then (srt (wl T (frL T n r n))).getD ((srt (wl T (frL T n r n))).length - 1) 1000000
  else if w = 5 then ((frL T n r n).map (wo T)).getD 0 1000000
  else if w = 6 then ((frL T n r n).map (wo T)).getD ((frL T n r n).length - 1) 1000000
  else if w = 7 then nI (ulk (srt (wl T (frL T n r n))) (srt (wl T (frL T n r n))).length)
  else (srt (wl T (frL T n r n))).getD (((srt (wl T (frL T n r n))).length - 1) / 2) 1000000
/-- a set -/
def stL (L : List Nat) : Int64 := L.foldl (fun b x => b ||| ((1 : Int64) <<< ((nI x).toInt64 &&& 63))) 0
theorem stL_take (L : List Nat) {k : Nat} (hk : k < L.length) : stL (L.take (k + 1)) = stL (L.take k) ||| ((1 : Int64) <<< ((nI (L.getD k 0)).toInt64 &&& 63)) := by
  unfold stL
  rw [List.take_succ_eq_append_getElem hk, List.foldl_append, List.getD_eq_getElem?_getD, List.getElem?_eq_getElem hk]
  rfl
def stF (T : Nat → Int32) (n r : Nat) : Int64 := stL (frL T n r n)
def alk (T : Nat → Int32) (n m : Nat) : Nat := fb_sm (fun r => fb_ct (fun e => decide (stF T n e = stF T n r)) r) m
theorem fb_sm_b {f : Nat → Nat} {c : Nat} : ∀ m, (∀ k, k < m → f k ≤ c) → fb_sm f m ≤ m * c
  | 0, _ => by simp [fb_sm]
  | m + 1, h => by
    have := fb_sm_b m (fun k hk => h k (by omega))
    have := h m (by omega)
    rw [fb_sm_succ, Nat.succ_mul]
    omega
/-- the worths' bounds -/
theorem wl_mem {T : Nat → Int32} {n : Nat} (v : VT T n) {L : List Nat} (hL : ∀ x, x ∈ L → x < n) {y : Int32} (h : y ∈ wl T L) : -999 ≤ y.toInt ∧ y.toInt ≤ 999 := by
  unfold wl at h
  obtain ⟨h1, h2⟩ := List.mem_filter.mp h
  obtain ⟨x, hx, rfl⟩ := List.mem_map.mp h1
  have h2 : ¬ wo T x = 1000000 := by simpa using h2
  rcases (v.2.2.2.2.2 x (hL x hx)).2.2 with h3 | h3
  · exact absurd h3 h2
  · exact h3
theorem smL_b : ∀ (W : List Int32), W.length ≤ 1000 → (∀ y, y ∈ W → -999 ≤ y.toInt ∧ y.toInt ≤ 999) → -(999 * (W.length : Int)) ≤ (smL W).toInt ∧ (smL W).toInt ≤ 999 * (W.length : Int) := by
  intro W hl h
  have key : ∀ k, k ≤ W.length → -(999 * (k : Int)) ≤ (smL (W.take k)).toInt ∧ (smL (W.take k)).toInt ≤ 999 * (k : Int) := by
    intro k
    induction k with
    | zero => intro _; simp [smL]
    | succ k ih =>
      intro hk
      have i := ih (by omega)
      have hk' : k < W.length := by omega
      rw [smL_take W hk']
      have hm : W.getD k 0 ∈ W := by rw [List.getD_eq_getElem?_getD, List.getElem?_eq_getElem hk']; exact List.getElem_mem hk'
      have b := h _ hm
      rw [fb_addI (by omega) (by omega)]
      omega
  have := key W.length (Nat.le_refl _)
  rwa [List.take_length] at this
theorem isr_mem {S : List Int32} {x y : Int32} (h : y ∈ isr S x) : y = x ∨ y ∈ S := by
  unfold isr at h
  rcases List.mem_append.mp h with h | h
  · exact Or.inr (List.mem_of_mem_take h)
  · rcases List.mem_cons.mp h with h | h
    · exact Or.inl h
    · exact Or.inr (List.mem_of_mem_drop h)
theorem srt_mem {W : List Int32} {y : Int32} (h : y ∈ srt W) : y ∈ W := by
  have key : ∀ (W S : List Int32), y ∈ W.foldl isr S → y ∈ S ∨ y ∈ W := by
    intro W
    induction W with
    | nil => intro S h; exact Or.inl h
    | cons x W ih =>
      intro S h
      rw [List.foldl_cons] at h
      rcases ih _ h with h | h
      · rcases isr_mem h with h | h
        · exact Or.inr (by rw [h]; exact List.mem_cons_self)
        · exact Or.inl h
      · exact Or.inr (List.mem_cons_of_mem _ h)
  rcases key W [] h with h | h
  · simp at h
  · exact h
theorem getD_or {L : List Int32} {j : Nat} {z : Int32} : L.getD j z = z ∨ L.getD j z ∈ L := by
  rw [List.getD_eq_getElem?_getD]
  by_cases h : j < L.length
  · rw [List.getElem?_eq_getElem h]; exact Or.inr (List.getElem_mem h)
  · rw [List.getElem?_eq_none (by omega)]; exact Or.inl rfl
/-- what is said of a frame is far above -FAR -/
theorem ans_b {T : Nat → Int32} {n r : Nat} (v : VT T n) (w : Int32) : -1000000 < (ans T n r w).toInt ∧ (ans T n r w).toInt ≤ 1000000 := by
  have hL : ∀ x, x ∈ frL T n r n → x < n := fun x hx => (frL_mem (Nat.le_refl _) hx).1
  have h1 := frL_len T n r n
  have h2 := wl_len T (frL T n r n)
  have h3 := srt_len (wl T (frL T n r n))
  have h40 := v.2.1
  have m : (1000000 : Int32).toInt = 1000000 := by decide
  have hw : ∀ y, y ∈ wl T (frL T n r n) → -999 ≤ y.toInt ∧ y.toInt ≤ 999 := fun y hy => wl_mem v hL hy
  have hs : ∀ j, -1000000 < ((srt (wl T (frL T n r n))).getD j 1000000).toInt ∧ ((srt (wl T (frL T n r n))).getD j 1000000).toInt ≤ 1000000 := fun j => by
    rcases getD_or (L := srt (wl T (frL T n r n))) (j := j) (z := 1000000) with h | h
    · rw [h, m]; omega
    · have := hw _ (srt_mem h); omega
  have hr : ∀ j, -1000000 < (((frL T n r n).map (wo T)).getD j 1000000).toInt ∧ (((frL T n r n).map (wo T)).getD j 1000000).toInt ≤ 1000000 := fun j => by
    rcases getD_or (L := (frL T n r n).map (wo T)) (j := j) (z := 1000000) with h | h
    · rw [h, m]; omega
    · obtain ⟨x, hx, e⟩ := List.mem_map.mp h
      rw [← e]
      rcases (v.2.2.2.2.2 x (hL x hx)).2.2 with h3 | h3
      · rw [h3, m]; omega
      · omega
  unfold ans
  split
  · rw [nI_toInt (by omega)]; omega
  split
  · rw [nI_toInt (by omega)]; omega
  split
  · have := smL_b (wl T (frL T n r n)) (by omega) hw; omega
  split
  · exact hs _
  split
  · exact hs _
  split
  · exact hr _
  split
  · exact hr _
  split
  · have : ulk (srt (wl T (frL T n r n))) (srt (wl T (frL T n r n))).length ≤ (srt (wl T (frL T n r n))).length := fb_ct_le _ _
    rw [nI_toInt (by omega)]; omega
  · exact hs _
