/-! The judgement of this claim: a world of cells that are numbered 0, 1, .. from an address b0 on; a value's reference is a cell's number. -/
def lw_ok : List Cond := lw_tbl.filter goodWord
theorem ok_at {w : Cond} (i : Nat) (h : lw_tbl[i]? = some w) (g : goodWord w = true) : w ∈ lw_ok := List.mem_filter.mpr ⟨List.mem_of_getElem? h, g⟩
theorem fv_good : ∀ w ∈ lw_ok, goodWord w = true := fun w h => (List.mem_filter.mp h).2
theorem fv_goodIn {w : Cond} (h : w ∈ lw_ok) : GoodIn lw_ok (w :: lw_ok) := fun x hx => by
  rcases List.mem_cons.mp hx with rfl | hx
  · exact ⟨h, good_of_word (fv_good _ h)⟩
  · exact ⟨hx, good_of_word (fv_good _ hx)⟩
/-- words that a change of the tables keeps, though they aren't among the good ones -/
def nst : List (String × Nat × MethodName) := [(RX6, 46, yX0_init), (RX6, 57, yX2_init), (RX6, 9, yX3_init), (RX1, 24, yX5_init), (RX2, 9, yX5_init), (RX3, 11, yX4_init), (RX4, 11, yX5_init)]
def Nz (U : State) : Prop := (∀ q ∈ nst, va_Nw (.methodLinkNest q.1 q.2.1 q.2.2 RX6) U) ∧ va_AO RX5 U ∧ va_AO RX2 U
theorem Nz.warm {s U : State} (hW : s.WarmedH U.vm) (h : Nz s) : Nz U := ⟨fun q hq => va_Nw.warmM hW (h.1 q hq), va_AO.moved hW.alike h.2.1, va_AO.moved hW.alike h.2.2⟩
theorem Nz.same {s U : State} (hW : s.vm = U.vm) (h : Nz s) : Nz U := ⟨fun q hq => va_Nw.same rfl hW (h.1 q hq), va_AO.moved (by rw [hW]; exact Vm.Alike.refl _) h.2.1, va_AO.moved (by rw [hW]; exact Vm.Alike.refl _) h.2.2⟩
def rv (b0 : Nat) (v : Value) : Value := match v with
  | .ref i => .ref (b0 + i)
  | v => v
theorem rv_cat (b0 : Nat) (v : Value) : (rv b0 v).category = v.category := by cases v <;> rfl
def rc (b0 : Nat) (k : Nat → ClassId) (e : va_E) : va_E := match e with
  | .inl (t, n, .inr (.inr (.inr (.inr f)))) => .inl (k t, n, .inr (.inr (.inr (.inr (fun j => (f j).map (fun i => b0 + i))))))
  | .inl (t, n, f) => .inl (k t, n, f)
  | .inr (c, fs) => .inr (c, fs.map (rv b0))
def ww (b0 : Nat) (k : Nat → ClassId) (G : List va_E) : va_W := G.mapIdx (fun i e => (b0 + i, rc b0 k e))
theorem ww_get (b0 : Nat) (k : Nat → ClassId) (G : List va_E) (i : Nat) : (ww b0 k G)[i]? = (G[i]?).map (fun e => (b0 + i, rc b0 k e)) := by
  simp [ww, List.getElem?_mapIdx]
theorem ww_at {b0 : Nat} {k : Nat → ClassId} {G : List va_E} {i : Nat} {e : va_E} (h : G[i]? = some e) : (ww b0 k G)[i]? = some (b0 + i, rc b0 k e) := by
  rw [ww_get, h]; rfl
theorem ww_set (b0 : Nat) (k : Nat → ClassId) (G : List va_E) (i : Nat) (e : va_E) : (ww b0 k G).set i (b0 + i, rc b0 k e) = ww b0 k (G.set i e) := by
  apply List.ext_getElem?
  intro j
  rw [ww_get]
  by_cases h : i = j
  · subst h
    by_cases hl : i < G.length
    · rw [List.getElem?_set_self (by simpa [ww] using hl), List.getElem?_set_self hl]; rfl
    · rw [List.getElem?_eq_none (by simpa [ww] using hl), List.getElem?_eq_none (by simpa using hl)]; rfl
  · rw [List.getElem?_set_ne h, List.getElem?_set_ne h, ww_get]
theorem ww_push (b0 : Nat) (k : Nat → ClassId) (G : List va_E) (e : va_E) : ww b0 k G ++ [(b0 + G.length, rc b0 k e)] = ww b0 k (G ++ [e]) := by
  simp [ww, List.mapIdx_append]
theorem ww_D (b0 : Nat) (k : Nat → ClassId) (G : List va_E) : va_D (fun q => b0 ≤ q) (ww b0 k G) := by
  refine ⟨fun i j p q hi hj hpq => ?_, fun i q hi => ?_⟩
  · rw [ww_get] at hi hj
    obtain ⟨e, -, rfl⟩ := Option.map_eq_some_iff.mp hi
    obtain ⟨e', -, rfl⟩ := Option.map_eq_some_iff.mp hj
    have h : b0 + i = b0 + j := hpq
    omega
  · rw [ww_get] at hi
    obtain ⟨e, -, rfl⟩ := Option.map_eq_some_iff.mp hi
    exact Nat.le_add_right _ _
def tt (k : Nat → ClassId) : List (ClassId × FieldType) := [(k 0, .int), (k 1, .long), (k 2, .boolean), (k 3, .object RX5), (k 4, .object RX2)]
def rmd (d mc ms : Nat) : Room := { frames := d, cells := mc, slots := ms, locals := 30 * d }
/-- the locals -/
def lh (ls : Array Slot) (nL b0 : Nat) (l : List (Option Value)) : Prop := ls.size = nL ∧ lv_wf ls ∧ ∀ (i : Nat) (v : Value), l[i]? = some (some v) → ls[i]? = some (.val (rv b0 v))
def la (b0 : Nat) (l : List (Option Value)) : List (Nat × Value) := (l.mapIdx (fun i o => (o.map (fun v => (i, rv b0 v))))).filterMap id
theorem la_mem {b0 : Nat} {l : List (Option Value)} {q : Nat × Value} : q ∈ la b0 l ↔ ∃ v, l[q.1]? = some (some v) ∧ q.2 = rv b0 v := by
  unfold la
  rw [List.mem_filterMap]
  constructor
  · rintro ⟨o, ho, hq⟩
    obtain ⟨i, hi⟩ := List.getElem?_of_mem ho
    rw [List.getElem?_mapIdx] at hi
    obtain ⟨o', h1, h2⟩ := Option.map_eq_some_iff.mp hi
    have hq : o = some q := hq
    subst hq
    obtain ⟨v, h3, h4⟩ := Option.map_eq_some_iff.mp h2
    subst h3; subst h4
    exact ⟨v, h1, rfl⟩
  · rintro ⟨v, h1, h2⟩
    refine ⟨some q, ?_, rfl⟩
    refine List.mem_of_getElem? (i := q.1) ?_
    rw [List.getElem?_mapIdx, h1]
    obtain ⟨a, b⟩ := q
    have h2 : b = rv b0 v := h2
    subst h2
    rfl
theorem lh_has {ls : Array Slot} {nL b0 : Nat} {l : List (Option Value)} (h : lh ls nL b0 l) : lv_has ls nL (la b0 l) := by
  refine ⟨h.1, h.2.1, fun q hq => ?_⟩
  obtain ⟨v, h1, h2⟩ := la_mem.mp hq
  rw [h2]
  exact h.2.2 q.1 v h1
/-- a store of one slot at i is no store into a long's second half -/
def okst (l : List (Option Value)) (i : Nat) : Bool := match i with
  | 0 => true
  | j + 1 => match l[j]? with
    | some (some v) => v.category == 1
    | _ => true
theorem lh_set {ls : Array Slot} {nL b0 : Nat} {l : List (Option Value)} {i : Nat} {v : Value} (hok : okst l i = true)
    (h : lv_has ls nL ((i, rv b0 v) :: (la b0 l).filter (fun q => !(q.1 == i) && !(q.1 + 1 == i && q.2.category == 2)))) : lh ls nL b0 (l.set i (some v)) := by
  refine ⟨h.1, h.2.1, fun j w hj => ?_⟩
  by_cases hij : i = j
  · subst hij
    by_cases hl : i < l.length
    · rw [List.getElem?_set_self hl] at hj
      cases hj
      exact h.2.2 _ List.mem_cons_self
    · rw [List.getElem?_eq_none (by simpa using hl)] at hj
      cases hj
  · rw [List.getElem?_set_ne hij] at hj
    refine h.2.2 (j, rv b0 w) (List.mem_cons_of_mem _ (List.mem_filter.mpr ⟨la_mem.mpr ⟨w, hj, rfl⟩, ?_⟩))
    have h1 : (j == i) = false := by simpa using fun z => hij z.symm
    have h2 : (j + 1 == i && (rv b0 w).category == 2) = false := by
      by_cases hz : j + 1 = i
      · subst hz
        have hc : (w.category == 1) = true := by simpa [okst, hj] using hok
        rw [rv_cat, eq_of_beq hc]
        simp
      · simp [hz]
    show (!(j == i) && !(j + 1 == i && (rv b0 w).category == 2)) = true
    rw [h1, h2]; rfl
theorem lh_set2 {ls : Array Slot} {nL b0 : Nat} {l : List (Option Value)} {i : Nat} {v : Value} (hok : okst l i = true)
    (h : lv_has ls nL ((i, rv b0 v) :: (la b0 l).filter (fun q => !(q.1 == i) && (!(q.1 == i + 1) && !(q.1 + 1 == i && q.2.category == 2))))) : lh ls nL b0 ((l.set i (some v)).set (i + 1) none) := by
  refine ⟨h.1, h.2.1, fun j w hj => ?_⟩
  have hj1 : i + 1 ≠ j := by
    rintro rfl
    by_cases hl : i + 1 < (l.set i (some v)).length
    · rw [List.getElem?_set_self hl] at hj; cases hj
    · rw [List.getElem?_eq_none (by simpa using hl)] at hj; cases hj
  rw [List.getElem?_set_ne hj1] at hj
  by_cases hij : i = j
  · subst hij
    by_cases hl : i < l.length
    · rw [List.getElem?_set_self hl] at hj
      cases hj
      exact h.2.2 _ List.mem_cons_self
    · rw [List.getElem?_eq_none (by simpa using hl)] at hj
      cases hj
  · rw [List.getElem?_set_ne hij] at hj
    refine h.2.2 (j, rv b0 w) (List.mem_cons_of_mem _ (List.mem_filter.mpr ⟨la_mem.mpr ⟨w, hj, rfl⟩, ?_⟩))
    have h1 : (j == i) = false := by simpa using fun z => hij z.symm
    have h3 : (j == i + 1) = false := by simpa using fun z => hj1 z.symm
    have h2 : (j + 1 == i && (rv b0 w).category == 2) = false := by
      by_cases hz : j + 1 = i
      · subst hz
        have hc : (w.category == 1) = true := by simpa [okst, hj] using hok
        rw [rv_cat, eq_of_beq hc]
        simp
      · simp [hz]
    show (!(j == i) && (!(j == i + 1) && !(j + 1 == i && (rv b0 w).category == 2))) = true
    rw [h1, h2, h3]; rfl
/-- what a method's frame knows of the machine -/
def Cx (cc : ByteArray) (nL : Nat) (ret : Option FieldType) (own nm : String) (p : Program) (s : State) (m : MethodId) (args : Array Value) (meth : Method) (c : Code) : Prop :=
  p.tables.exec = Jvm.exec ∧ c.code = cc ∧ meth.sig.returnType = ret ∧ c.maxLocals = nL ∧ s.vm.findClass own = some m.cls ∧ (∀ w ∈ lw_ok, w.before args s = true) ∧ meth.locks = false ∧ meth.name = nm
/-- the world -/
def Wd (D : va_G) (b0 : Nat) (k : Nat → ClassId) (s : State) (G : List va_E) (H : Heap) (locs : List Loc) (cells : Nat) : Prop :=
  va_K D vwCl (tt k) s ∧ va_P D vwCl (ww b0 k G) H ∧ b0 + G.length = s.heap.size + cells ∧ va_S (fun q => b0 ≤ q) s.heap H locs ∧ b0 ≤ s.heap.size ∧ Nz s
theorem Wd.size {p : Program} {la : Launch} {e : Env} {R : Room} {s : State} {m : MethodId} {args : Array Value} {below : List Frame} {meth : Method} {c : Code} {T : State} {locs : List Loc} {cells slots : Nat} {D : va_G} {b0 : Nat} {k : Nat → ClassId} {G : List va_E}
    (w : Wd D b0 k s G T.heap locs cells) (X : Stand p la e R s m args below meth c T locs cells slots) : T.heap.size = b0 + G.length := by
  have h1 : T.heap.size ≤ s.heap.size + cells := X.same.2.2.1
  have h2 := w.2.2.1
  have h3 : s.heap.size ≤ T.heap.size := w.2.2.2.1.1
  rcases Nat.eq_zero_or_pos G.length with h | h
  · have := w.2.2.2.2.1
    omega
  · have h4 : G[G.length - 1]? = some G[G.length - 1] := List.getElem?_eq_getElem (by omega)
    have h5 := (w.2.1 _ _ (ww_at h4)).lt
    have h6 : b0 + (G.length - 1) < T.heap.size := h5
    omega
def Qm (D : va_G) (b0 : Nat) (k : Nat → ClassId) (mc : Nat) (Post : Option Value → List va_E → Prop) : Array Value → State → Outcome → State → Prop := fun _ st oc t =>
  (∃ (res : Option Value) (G' : List va_E), oc = .returned (res.map (rv b0)) ∧ Post res G' ∧ va_P D vwCl (ww b0 k G') t.heap ∧ t.heap.size = b0 + G'.length ∧ b0 + G'.length = st.heap.size + mc) ∧ va_F (fun q => b0 ≤ q) st t
def FV (cc : ByteArray) (nL : Nat) (ret : Option FieldType) (own nm : String) (d mc ms : Nat) (Post : Option Value → List va_E → Prop) (cells slots pc : Nat) (l : List (Option Value)) (st : List Value) (G : List va_E) : Prop :=
  ∀ (p : Program) (la : Launch) (e : Env) (s : State) (m : MethodId) (args : Array Value) (below : List Frame) (meth : Method) (c : Code) (D : va_G) (b0 : Nat) (k : Nat → ClassId) (H : Heap) (locs : List Loc) (ls : Array Slot),
    Cx cc nL ret own nm p s m args meth c → Wd D b0 k s G H locs cells → lh ls nL b0 l →
    W p la e (rmd d mc ms) s m args below meth c H locs cells slots (MQ below (Qm D b0 k mc Post) args s mc ms (fun q => b0 ≤ q)) (F0 m pc ls (st.map (rv b0)))
def FP (G : List va_E) (D : va_G) (b0 : Nat) (k : Nat → ClassId) (U : State) : Prop := va_K D vwCl (tt k) U ∧ va_P D vwCl (ww b0 k G) U.heap ∧ U.heap.size = b0 + G.length ∧ Nz U
/-- a method's contract -/
def FC (y : MethodName) (cc : ByteArray) (nL : Nat) (ret : Option FieldType) (d mc ms : Nat) (av : List Value) (G : List va_E) (Post : Option Value → List va_E → Prop) : Prop :=
  ∀ (la : Launch) (D : va_G) (b0 : Nat) (k : Nat → ClassId), Met la y (.code y cc nL ret :: lw_ok) (rmd d mc ms) (va_Pc (av.map (rv b0)) (FP G D b0 k)) (Qm D b0 k mc Post) mc ms (fun q => b0 ≤ q)
def en0 (av : List Value) (nL : Nat) : List (Option Value) := av.map some ++ List.replicate (nL - av.length) none
theorem lv_args1 : ∀ (vs : List Value) (i : Nat), (∀ v ∈ vs, v.category = 1) → ∀ (j : Nat) (v : Value), vs[j]? = some v → (i + j, v) ∈ lv_args i vs
  | [], i, _, j, v, h => by simp at h
  | w :: vs, i, hc, j, v, h => by
    have h1 : ¬ w.category = 2 := by have := hc w List.mem_cons_self; omega
    simp only [lv_args, h1, if_false]
    cases j with
    | zero =>
      rw [List.getElem?_cons_zero] at h
      cases h
      exact List.mem_cons_self
    | succ j =>
      rw [List.getElem?_cons_succ] at h
      have := lv_args1 vs (i + 1) (fun v hv => hc v (List.mem_cons_of_mem _ hv)) j v h
      rw [show i + (j + 1) = i + 1 + j by omega]
      exact List.mem_cons_of_mem _ this
theorem lg_len1 : ∀ (vs : List Value), (∀ v ∈ vs, v.category = 1) → (lg_sl vs).length = vs.length
  | [], _ => rfl
  | w :: vs, hc => by
    have h1 : ¬ w.category = 2 := by have := hc w List.mem_cons_self; omega
    have ih := lg_len1 vs (fun v hv => hc v (List.mem_cons_of_mem _ hv))
    have e : lg_sl (w :: vs) = [.val w] ++ lg_sl vs := by simp [lg_sl, h1]
    rw [e, List.length_append, ih]
    simp; omega
theorem en0_lh (b0 : Nat) {av : List Value} {nL : Nat} (hc : ∀ v ∈ av, v.category = 1) (hn : av.length ≤ nL) :
    lh ((lg_sl (av.map (rv b0)) ++ List.replicate (nL - (lg_sl (av.map (rv b0))).length) Slot.unset).toArray) nL b0 (en0 av nL) := by
  have hc' : ∀ v ∈ av.map (rv b0), v.category = 1 := fun v hv => by
    obtain ⟨w, hw, rfl⟩ := List.mem_map.mp hv
    rw [rv_cat]; exact hc w hw
  have h := lv_entry (av.map (rv b0)) (n := nL) (by rw [lg_len1 _ hc', List.length_map]; exact hn)
  refine ⟨h.1, h.2.1, fun i v hi => ?_⟩
  have h1 : av[i]? = some v := by
    unfold en0 at hi
    by_cases hl : i < av.length
    · rw [List.getElem?_append_left (by simpa using hl), List.getElem?_map] at hi
      obtain ⟨x, h2, h3⟩ := Option.map_eq_some_iff.mp hi
      cases h3
      exact h2
    · rw [List.getElem?_append_right (by simpa using hl)] at hi
      have := List.mem_of_getElem? hi
      rw [List.mem_replicate] at this
      exact absurd this.2 (by simp)
  refine h.2.2 (i, rv b0 v) ?_
  have := lv_args1 (av.map (rv b0)) 0 hc' i (rv b0 v) (by rw [List.getElem?_map, h1]; rfl)
  rwa [Nat.zero_add] at this
theorem FC.of {y : MethodName} {cc : ByteArray} {nL : Nat} {ret : Option FieldType} {d mc ms : Nat} {av : List Value} {G : List va_E} {Post : Option Value → List va_E → Prop}
    (hy : plainName y.cls = true) (hc : av.all (fun v => v.category == 1) = true) (hn : av.length ≤ nL)
    (h : FV cc nL ret y.cls y.name d mc ms Post 0 0 0 (en0 av nL) [] G) : FC y cc nL ret d mc ms av G Post := by
  intro la D b0 k
  refine Met.ofW (cc := cc) (maxL := nL) (ret := ret) hy rfl ?_
  intro p e s m args below meth c s₁ B hml hv
  obtain ⟨rfl, hK, hP, hsz, hN⟩ := hv
  have hts := atoms_spec (ws := .code y cc nL ret :: lw_ok) B.pre
  have hl := en0_lh b0 (av := av) (nL := nL) (fun v hv => eq_of_beq (List.all_eq_true.mp hc v hv)) hn
  rw [lg_entry_eq]
  exact h p la e s m _ below meth c D b0 k s.heap [] _ ⟨B.exec, B.bytes, B.returns, hml, findClass_of_methodNamed B.named, fun w hw => hts w (List.mem_cons_of_mem _ hw), B.notSynchronized, (name_of_methodNamed B.named B.method).1⟩ ⟨hK, hP, hsz.symm, va_S.rf, by omega, hN⟩ hl
