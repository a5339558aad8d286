set_option maxRecDepth 20000 in
theorem iX0 : ∀ w ∈ wsX00, w ∈ lw_ok := by decide +kernel
set_option maxRecDepth 20000 in
theorem iX1 : ∀ w ∈ wsX10, w ∈ lw_ok := by decide +kernel
set_option maxRecDepth 20000 in
theorem iX2 : ∀ w ∈ wsX20, w ∈ lw_ok := by decide +kernel
set_option maxRecDepth 20000 in
theorem iX3 : ∀ w ∈ wsX30, w ∈ lw_ok := by decide +kernel
set_option maxRecDepth 20000 in
theorem iX4 : ∀ w ∈ wsX40, w ∈ lw_ok := by decide +kernel
set_option maxRecDepth 20000 in
theorem iX5 : ∀ w ∈ wsX50, w ∈ lw_ok := by decide +kernel
set_option maxRecDepth 20000 in
theorem iX6 : ∀ w ∈ wsX60, w ∈ lw_ok := by decide +kernel
set_option maxRecDepth 20000 in
theorem iX7 : ∀ w ∈ wsX70, w ∈ lw_ok := by decide +kernel
theorem cl_in : ∀ (ci : Nat) (q : vw_C), vwCl[ci]? = some q → ∀ w ∈ u_ws q.1 q.2.1 q.2.2, w ∈ lw_ok
  | 0, q, h => by cases h; exact iX0
  | 1, q, h => by cases h; exact iX1
  | 2, q, h => by cases h; exact iX2
  | 3, q, h => by cases h; exact iX3
  | 4, q, h => by cases h; exact iX4
  | 5, q, h => by cases h; exact iX5
  | 6, q, h => by cases h; exact iX6
  | 7, q, h => by cases h; exact iX7
  | n + 8, q, h => by simp [vwCl] at h
def tyX (ci : Nat) : Nat → FieldType := match ci with
  | 0 => tyX0
  | 1 => tyX1
  | 2 => tyX2
  | 3 => tyX3
  | 4 => tyX4
  | 5 => tyX5
  | 6 => tyX6
  | _ => tyX7
theorem cl_ty : ∀ (ci : Nat) (q : vw_C), vwCl[ci]? = some q → ∀ k, k < q.2.2 → parseFieldDescriptor (q.2.1 k).2.2.1 = some (tyX ci k)
  | 0, q, h => by cases h; exact tyX0_ok
  | 1, q, h => by cases h; exact tyX1_ok
  | 2, q, h => by cases h; exact tyX2_ok
  | 3, q, h => by cases h; exact tyX3_ok
  | 4, q, h => by cases h; exact tyX4_ok
  | 5, q, h => by cases h; exact tyX5_ok
  | 6, q, h => by cases h; exact tyX6_ok
  | 7, q, h => by cases h; exact tyX7_ok
  | n + 8, q, h => by simp [vwCl] at h
theorem cl_nm : ∀ (ci : Nat) (q : vw_C), vwCl[ci]? = some q → ∀ a, a < q.2.2 → ∀ b, b < q.2.2 → a ≠ b → (q.2.1 a).2.1 ≠ (q.2.1 b).2.1
  | 0, q, h => by cases h; exact nmX0
  | 1, q, h => by cases h; exact nmX1
  | 2, q, h => by cases h; exact nmX2
  | 3, q, h => by cases h; exact nmX3
  | 4, q, h => by cases h; exact nmX4
  | 5, q, h => by cases h; exact nmX5
  | 6, q, h => by cases h; exact nmX6
  | 7, q, h => by cases h; exact nmX7
  | n + 8, q, h => by simp [vwCl] at h
/-- the pool's entry idx of the class own names field k of class ci -/
def FL (own : String) (idx ci k : Nat) : Prop := ∃ q : vw_C, vwCl[ci]? = some q ∧ k < q.2.2 ∧ Cond.fieldLink own idx (q.2.1 k).1 (q.2.1 k).2.1 (q.2.1 k).2.2.1 ∈ lw_ok
def finX (ci k : Nat) : Bool × String := match vwCl[ci]? with
  | some q => ((q.2.1 k).2.2.2, (q.2.1 k).1)
  | none => (false, "")
theorem cl_fin {ci k : Nat} {q : vw_C} (h : vwCl[ci]? = some q) : finX ci k = ((q.2.1 k).2.2.2, (q.2.1 k).1) := by unfold finX; rw [h]
/-- what a call needs of the tables -/
def CB (y : MethodName) (bc : ByteArray) (mL : Nat) (rt : Option FieldType) (n : Nat) : Prop := Cond.code y bc mL rt ∈ lw_ok ∧ Cond.initialized y.cls ∈ lw_ok ∧ mL ≤ 11 ∧ y.cls ≠ "java/lang/invoke/MethodHandle" ∧ y.cls ≠ "java/lang/invoke/VarHandle" ∧ (parseMethodDescriptor y.desc).map (fun d => d.parameters.length) = some n
def CV (own : String) (idx : Nat) (y : MethodName) (bc : ByteArray) (mL : Nat) (rt : Option FieldType) (n : Nat) : Prop := CB y bc mL rt n ∧ Cond.methodLink own idx y ∈ lw_ok ∧ Cond.instanceMethod y ∈ lw_ok ∧ Cond.selects y.cls y y ∈ lw_ok
def CS (own : String) (idx : Nat) (y : MethodName) (bc : ByteArray) (mL : Nat) (rt : Option FieldType) (n : Nat) : Prop := CB y bc mL rt n ∧ Cond.methodLink own idx y ∈ lw_ok ∧ Cond.static y ∈ lw_ok
def CI (own : String) (idx : Nat) (y : MethodName) (bc : ByteArray) (mL : Nat) : Prop := CB y bc mL none 0 ∧ Cond.methodLink own idx y ∈ lw_ok ∧ Cond.instanceMethod y ∈ lw_ok ∧ y.name = "<init>"
def CN (own : String) (idx : Nat) (y : MethodName) (bc : ByteArray) (mL : Nat) : Prop := CB y bc mL none 0 ∧ (own, idx, y) ∈ nst ∧ Cond.instanceMethod y ∈ lw_ok ∧ y.name = "<init>"
section
variable {cc : ByteArray} {nL : Nat} {ret : Option FieldType} {own nm : String} {d mc ms : Nat} {Post : Option Value → List va_E → Prop} {cells slots pc q : Nat} {l l' : List (Option Value)} {st st0 : List Value} {G : List va_E}
theorem fv_getf {i ci f idx : Nat} {fs : List Value} {v : Value} (hd : decode cc pc = .ok (.getfield idx, 3)) (hF : FL own idx ci f) (hG : G[i]? = some (.inr (ci, fs))) (hv : fs[f]? = some v) (hq : pc + 3 = q) (k : FV cc nL ret own nm d mc ms Post cells slots q l (v :: st) G) : FV cc nL ret own nm d mc ms Post cells slots pc l (.ref i :: st) G := by
  subst hq
  intro p la e s m args below meth c D b0 kk H locs ls C w hl
  obtain ⟨⟨Cn, T, N⟩, hc, hk, hm⟩ := hF
  exact va_get (D := D) (ci := ci) (v := rv b0 v) (C := Cn) (T := T) (N := N) C.1 C.2.1 C.2.2.2.2.2.1 (cl_in ci _ hc) C.2.2.2.2.1 w.1 w.2.1 i (ww_at hG) hc f hk (C.2.2.2.2.2.1 _ hm) (fun _ h9 => h9) (by rw [List.getElem?_map, hv]; rfl) hd (k p la e s m args below meth c D b0 kk H locs ls C w hl)
theorem fv_putf {i ci f idx : Nat} {fs : List Value} {x : Int32} {ty : FieldType} (hd : decode cc pc = .ok (.putfield idx, 3)) (hF : FL own idx ci f) (hG : G[i]? = some (.inr (ci, fs))) (hfin : (finX ci f).1 = false) (hty : tyX ci f = ty) (hn : narrow ty (.int x) = .int x) (hfit : fits ty (.int x) = true) (hlen : f < fs.length) (hq : pc + 3 = q) (k : FV cc nL ret own nm d mc ms Post cells slots q l st (G.set i (.inr (ci, fs.set f (.int x))))) : FV cc nL ret own nm d mc ms Post cells slots pc l (.int x :: .ref i :: st) G := by
  subst hq
  subst hty
  intro p la e s m args below meth c D b0 kk H locs ls C w hl
  obtain ⟨⟨Cn, T, N⟩, hc, hk, hm⟩ := hF
  rw [cl_fin hc] at hfin
  refine va_put (D := D) (ci := ci) (v := .int x) (C := Cn) (T := T) (N := N) C.1 C.2.1 C.2.2.2.2.2.1 (cl_in ci _ hc) (tyX ci) (cl_ty ci _ hc) (cl_nm ci _ hc) C.2.2.2.2.1 w.1 w.2.1 (ww_D b0 kk G) w.2.2.2.1 i (ww_at hG) hc f hk (C.2.2.2.2.2.1 _ hm) (fun _ h9 => h9) hfin (cl_ty ci _ hc f hk) hn hfit (by rw [List.length_map]; exact hlen) hd (fun H1 locs1 hP1 hD1 hS1 => ?_)
  have e2 : (.inr (ci, (fs.map (rv b0)).set f (.int x)) : va_E) = rc b0 kk (.inr (ci, fs.set f (.int x))) := by
    show _ = (.inr (ci, (fs.set f (.int x)).map (rv b0)) : va_E)
    rw [List.map_set]; rfl
  rw [e2, ww_set] at hP1
  exact k p la e s m args below meth c D b0 kk H1 locs1 ls C ⟨w.1, hP1, by rw [List.length_set]; exact w.2.2.1, hS1, w.2.2.2.2⟩ hl
theorem fv_putr {i ci f idx j : Nat} {fs : List Value} {ty : FieldType} (hd : decode cc pc = .ok (.putfield idx, 3)) (hF : FL own idx ci f) (hG : G[i]? = some (.inr (ci, fs))) (hfin : finX ci f = (true, own)) (hnm : nm = "<init>") (hty : tyX ci f = ty) (hn : ∀ a, narrow ty (.ref a) = .ref a) (hfit : ∀ a, fits ty (.ref a) = true) (hlen : f < fs.length) (hq : pc + 3 = q) (k : FV cc nL ret own nm d mc ms Post cells slots q l st (G.set i (.inr (ci, fs.set f (.ref j))))) : FV cc nL ret own nm d mc ms Post cells slots pc l (.ref j :: .ref i :: st) G := by
  subst hq
  subst hty
  intro p la e s m args below meth c D b0 kk H locs ls C w hl
  obtain ⟨⟨Cn, T, N⟩, hc, hk, hm⟩ := hF
  rw [cl_fin hc] at hfin
  refine va_putF (D := D) (ci := ci) (v := .ref (b0 + j)) (C := Cn) (T := T) (N := N) C.1 C.2.1 C.2.2.2.2.2.1 (cl_in ci _ hc) (tyX ci) (cl_ty ci _ hc) (cl_nm ci _ hc) C.2.2.2.2.1 w.1 w.2.1 (ww_D b0 kk G) w.2.2.2.1 i (ww_at hG) hc f hk (C.2.2.2.2.2.1 _ hm) (fun _ h9 => h9) (congrArg Prod.fst hfin) (by rw [C.2.2.2.2.2.2.2]; exact hnm) (congrArg Prod.snd hfin) (cl_ty ci _ hc f hk) (hn _) (hfit _) (by rw [List.length_map]; exact hlen) hd (fun H1 locs1 hP1 hD1 hS1 => ?_)
  have e2 : (.inr (ci, (fs.map (rv b0)).set f (.ref (b0 + j))) : va_E) = rc b0 kk (.inr (ci, fs.set f (.ref j))) := by
    show _ = (.inr (ci, (fs.set f (.ref j)).map (rv b0)) : va_E)
    rw [List.map_set]; rfl
  rw [e2, ww_set] at hP1
  exact k p la e s m args below meth c D b0 kk H1 locs1 ls C ⟨w.1, hP1, by rw [List.length_set]; exact w.2.2.1, hS1, w.2.2.2.2⟩ hl
theorem fv_iaload {i n : Nat} {f : Nat → Int32} {x : Int32} (hd : decode cc pc = .ok (.iaload, 1)) (hG : G[i]? = some (.inl (0, n, .inl f))) (hin : vp_in x n) (hq : pc + 1 = q) (k : FV cc nL ret own nm d mc ms Post cells slots q l (.int (f x.toNatClampNeg) :: st) G) : FV cc nL ret own nm d mc ms Post cells slots pc l (.int x :: .ref i :: st) G := by
  subst hq
  intro p la e s m args below meth c D b0 kk H locs ls C w hl
  exact va_iald C.1 C.2.1 w.1 w.2.1 i 0 (ww_at hG) rfl hin hd (k p la e s m args below meth c D b0 kk H locs ls C w hl)
theorem fv_zaload {i n : Nat} {f : Nat → Int32} {x : Int32} (hd : decode cc pc = .ok (.baload, 1)) (hG : G[i]? = some (.inl (2, n, .inl f))) (hin : vp_in x n) (hq : pc + 1 = q) (k : FV cc nL ret own nm d mc ms Post cells slots q l (.int (f x.toNatClampNeg) :: st) G) : FV cc nL ret own nm d mc ms Post cells slots pc l (.int x :: .ref i :: st) G := by
  subst hq
  intro p la e s m args below meth c D b0 kk H locs ls C w hl
  exact va_zald C.1 C.2.1 w.1 w.2.1 i 2 (ww_at hG) rfl hin hd (k p la e s m args below meth c D b0 kk H locs ls C w hl)
theorem fv_laload {i n : Nat} {f : Nat → Int64} {x : Int32} (hd : decode cc pc = .ok (.laload, 1)) (hG : G[i]? = some (.inl (1, n, .inr (.inl f)))) (hin : vp_in x n) (hq : pc + 1 = q) (k : FV cc nL ret own nm d mc ms Post cells slots q l (.long (f x.toNatClampNeg) :: st) G) : FV cc nL ret own nm d mc ms Post cells slots pc l (.int x :: .ref i :: st) G := by
  subst hq
  intro p la e s m args below meth c D b0 kk H locs ls C w hl
  exact va_lald C.1 C.2.1 w.1 w.2.1 i 1 (ww_at hG) rfl hin hd (k p la e s m args below meth c D b0 kk H locs ls C w hl)
theorem fv_iastore {i n : Nat} {f : Nat → Int32} {x : Int32} {v : Int32} (hd : decode cc pc = .ok (.iastore, 1)) (hG : G[i]? = some (.inl (0, n, .inl f))) (hin : vp_in x n) (hq : pc + 1 = q) (k : FV cc nL ret own nm d mc ms Post cells slots q l st (G.set i (.inl (0, n, .inl (upd f x.toNatClampNeg v))))) : FV cc nL ret own nm d mc ms Post cells slots pc l (.int v :: .int x :: .ref i :: st) G := by
  subst hq
  intro p la e s m args below meth c D b0 kk H locs ls C w hl
  refine va_iast C.1 C.2.1 w.1 w.2.1 (ww_D b0 kk G) w.2.2.2.1 i 0 (ww_at hG) rfl hin hd (fun H1 locs1 hP1 hD1 hS1 => ?_)
  have hP1 : va_P D vwCl ((ww b0 kk G).set i (b0 + i, rc b0 kk (.inl (0, n, .inl (upd f x.toNatClampNeg v))))) H1 := hP1
  rw [ww_set] at hP1
  exact k p la e s m args below meth c D b0 kk H1 locs1 ls C ⟨w.1, hP1, by rw [List.length_set]; exact w.2.2.1, hS1, w.2.2.2.2⟩ hl
theorem fv_zastore {i n : Nat} {f : Nat → Int32} {x : Int32} {v : Int32} (hd : decode cc pc = .ok (.bastore, 1)) (hG : G[i]? = some (.inl (2, n, .inl f))) (hin : vp_in x n) (hq : pc + 1 = q) (k : FV cc nL ret own nm d mc ms Post cells slots q l st (G.set i (.inl (2, n, .inl (upd f x.toNatClampNeg (vp_nar .boolean v)))))) : FV cc nL ret own nm d mc ms Post cells slots pc l (.int v :: .int x :: .ref i :: st) G := by
  subst hq
  intro p la e s m args below meth c D b0 kk H locs ls C w hl
  refine va_zast C.1 C.2.1 w.1 w.2.1 (ww_D b0 kk G) w.2.2.2.1 i 2 (ww_at hG) rfl hin hd (fun H1 locs1 hP1 hD1 hS1 => ?_)
  have hP1 : va_P D vwCl ((ww b0 kk G).set i (b0 + i, rc b0 kk (.inl (2, n, .inl (upd f x.toNatClampNeg (vp_nar .boolean v)))))) H1 := hP1
  rw [ww_set] at hP1
  exact k p la e s m args below meth c D b0 kk H1 locs1 ls C ⟨w.1, hP1, by rw [List.length_set]; exact w.2.2.1, hS1, w.2.2.2.2⟩ hl
theorem fv_lastore {i n : Nat} {f : Nat → Int64} {x : Int32} {v : Int64} (hd : decode cc pc = .ok (.lastore, 1)) (hG : G[i]? = some (.inl (1, n, .inr (.inl f)))) (hin : vp_in x n) (hq : pc + 1 = q) (k : FV cc nL ret own nm d mc ms Post cells slots q l st (G.set i (.inl (1, n, .inr (.inl (vp_updL f x.toNatClampNeg v)))))) : FV cc nL ret own nm d mc ms Post cells slots pc l (.long v :: .int x :: .ref i :: st) G := by
  subst hq
  intro p la e s m args below meth c D b0 kk H locs ls C w hl
  refine va_last C.1 C.2.1 w.1 w.2.1 (ww_D b0 kk G) w.2.2.2.1 i 1 (ww_at hG) rfl hin hd (fun H1 locs1 hP1 hD1 hS1 => ?_)
  have hP1 : va_P D vwCl ((ww b0 kk G).set i (b0 + i, rc b0 kk (.inl (1, n, .inr (.inl (vp_updL f x.toNatClampNeg v)))))) H1 := hP1
  rw [ww_set] at hP1
  exact k p la e s m args below meth c D b0 kk H1 locs1 ls C ⟨w.1, hP1, by rw [List.length_set]; exact w.2.2.1, hS1, w.2.2.2.2⟩ hl
theorem fv_aaload3 {i n j : Nat} {f : Nat → Option Nat} {x : Int32} (hd : decode cc pc = .ok (.aaload, 1)) (hG : G[i]? = some (.inl (3, n, .inr (.inr (.inr (.inr f)))))) (hin : vp_in x n) (hj : f x.toNatClampNeg = some j) (hq : pc + 1 = q) (k : FV cc nL ret own nm d mc ms Post cells slots q l (.ref j :: st) G) : FV cc nL ret own nm d mc ms Post cells slots pc l (.int x :: .ref i :: st) G := by
  subst hq
  intro p la e s m args below meth c D b0 kk H locs ls C w hl
  refine va_aldq C.1 C.2.1 w.1 w.2.1 i 3 (ww_at hG) rfl hin hd ?_
  rw [hj]
  exact k p la e s m args below meth c D b0 kk H locs ls C w hl
theorem fv_aastore3 {i n j ci : Nat} {f : Nat → Option Nat} {x : Int32} {vs : List Value} {r : vw_C} (hd : decode cc pc = .ok (.aastore, 1)) (hG : G[i]? = some (.inl (3, n, .inr (.inr (.inr (.inr f)))))) (hv : G[j]? = some (.inr (ci, vs))) (hc : vwCl[ci]? = some r) (hr : r.1 = RX5) (hin : vp_in x n) (hq : pc + 1 = q) (k : FV cc nL ret own nm d mc ms Post cells slots q l st (G.set i (.inl (3, n, .inr (.inr (.inr (.inr (va_up f x.toNatClampNeg (some j))))))))) : FV cc nL ret own nm d mc ms Post cells slots pc l (.ref j :: .int x :: .ref i :: st) G := by
  subst hq
  intro p la e s m args below meth c D b0 kk H locs ls C w hl
  refine va_astq C.1 C.2.1 w.1 w.2.1 (ww_D b0 kk G) w.2.2.2.1 i 3 j ci (ww_at hG) (by rw [hr]; rfl) (ww_at hv) hc hin hd (fun H1 locs1 hP1 hD1 hS1 => ?_)
  have e2 : va_up (fun a => (f a).map (fun i => b0 + i)) x.toNatClampNeg (some (b0 + j)) = fun a => (va_up f x.toNatClampNeg (some j) a).map (fun i => b0 + i) := by
    funext a
    unfold va_up
    by_cases h : a = x.toNatClampNeg
    · simp [h]
    · simp [h]
  rw [e2] at hP1
  have hP1 : va_P D vwCl ((ww b0 kk G).set i (b0 + i, rc b0 kk (.inl (3, n, .inr (.inr (.inr (.inr (va_up f x.toNatClampNeg (some j))))))))) H1 := hP1
  rw [ww_set] at hP1
  exact k p la e s m args below meth c D b0 kk H1 locs1 ls C ⟨w.1, hP1, by rw [List.length_set]; exact w.2.2.1, hS1, w.2.2.2.2⟩ hl
theorem fv_aaload4 {i n j : Nat} {f : Nat → Option Nat} {x : Int32} (hd : decode cc pc = .ok (.aaload, 1)) (hG : G[i]? = some (.inl (4, n, .inr (.inr (.inr (.inr f)))))) (hin : vp_in x n) (hj : f x.toNatClampNeg = some j) (hq : pc + 1 = q) (k : FV cc nL ret own nm d mc ms Post cells slots q l (.ref j :: st) G) : FV cc nL ret own nm d mc ms Post cells slots pc l (.int x :: .ref i :: st) G := by
  subst hq
  intro p la e s m args below meth c D b0 kk H locs ls C w hl
  refine va_aldq C.1 C.2.1 w.1 w.2.1 i 4 (ww_at hG) rfl hin hd ?_
  rw [hj]
  exact k p la e s m args below meth c D b0 kk H locs ls C w hl
theorem fv_aastore4 {i n j ci : Nat} {f : Nat → Option Nat} {x : Int32} {vs : List Value} {r : vw_C} (hd : decode cc pc = .ok (.aastore, 1)) (hG : G[i]? = some (.inl (4, n, .inr (.inr (.inr (.inr f)))))) (hv : G[j]? = some (.inr (ci, vs))) (hc : vwCl[ci]? = some r) (hr : r.1 = RX2) (hin : vp_in x n) (hq : pc + 1 = q) (k : FV cc nL ret own nm d mc ms Post cells slots q l st (G.set i (.inl (4, n, .inr (.inr (.inr (.inr (va_up f x.toNatClampNeg (some j))))))))) : FV cc nL ret own nm d mc ms Post cells slots pc l (.ref j :: .int x :: .ref i :: st) G := by
  subst hq
  intro p la e s m args below meth c D b0 kk H locs ls C w hl
  refine va_astq C.1 C.2.1 w.1 w.2.1 (ww_D b0 kk G) w.2.2.2.1 i 4 j ci (ww_at hG) (by rw [hr]; rfl) (ww_at hv) hc hin hd (fun H1 locs1 hP1 hD1 hS1 => ?_)
  have e2 : va_up (fun a => (f a).map (fun i => b0 + i)) x.toNatClampNeg (some (b0 + j)) = fun a => (va_up f x.toNatClampNeg (some j) a).map (fun i => b0 + i) := by
    funext a
    unfold va_up
    by_cases h : a = x.toNatClampNeg
    · simp [h]
    · simp [h]
  rw [e2] at hP1
  have hP1 : va_P D vwCl ((ww b0 kk G).set i (b0 + i, rc b0 kk (.inl (4, n, .inr (.inr (.inr (.inr (va_up f x.toNatClampNeg (some j))))))))) H1 := hP1
  rw [ww_set] at hP1
  exact k p la e s m args below meth c D b0 kk H1 locs1 ls C ⟨w.1, hP1, by rw [List.length_set]; exact w.2.2.1, hS1, w.2.2.2.2⟩ hl
theorem Wd.push {D : va_G} {b0 : Nat} {kk : Nat → ClassId} {s : State} {H H1 : Heap} {locs : List Loc} {x : va_E} (w : Wd D b0 kk s G H locs cells) (hz : H.size = b0 + G.length) (z1 : H1.size = b0 + G.length + 1) (o1 : ∀ q, q < b0 + G.length → H1[q]? = H[q]?) (hx : va_at D vwCl (b0 + G.length, rc b0 kk x) H1) : Wd D b0 kk s (G ++ [x]) H1 locs (cells + 1) := by
  obtain ⟨w1, w2, w3, w4, w5⟩ := w
  refine ⟨w1, ?_, ?_, ⟨?_, ?_, w4.2.2⟩, w5⟩
  · rw [← ww_push]
    refine (w2.kept (fun i y hy => o1 y.1 (by rw [← hz]; exact (w2 i y hy).lt))).app (fun i y hy => ?_)
    have hi : i < 1 := (List.getElem?_eq_some_iff.mp hy).1
    have hi0 : i = 0 := by omega
    subst hi0
    have hy2 : y = (b0 + G.length, rc b0 kk x) := by
      have h3 : some (b0 + G.length, rc b0 kk x) = some y := hy
      exact (Option.some.inj h3).symm
    rw [hy2]
    exact hx
  · rw [List.length_append, List.length_singleton]; omega
  · have := w4.1; omega
  · intro y g1 g2
    exact (o1 y (by have := w4.1; omega)).trans (w4.2.1 y g1 g2)
theorem fv_new {idx ci N : Nat} {Cn : String} {T : u_T} {fs : List Value} (hd : decode cc pc = .ok (.new idx, 3)) (hc : vwCl[ci]? = some (Cn, T, N)) (hcl : Cond.classLink own idx Cn ∈ lw_ok) (hins : Cond.instantiable Cn N ∈ lw_ok) (hini : Cond.initialized Cn ∈ lw_ok) (hfs : ∀ j, j < N → defaultValue (tyX ci j) = vp_V fs j) (hrf : ∀ b, fs.map (rv b) = fs) (h1 : cells + 1 ≤ mc) (h2 : slots + N ≤ ms) (hq : pc + 3 = q) (k : FV cc nL ret own nm d mc ms Post (cells + 1) (slots + N) q l (.ref G.length :: st) (G ++ [.inr (ci, fs)])) : FV cc nL ret own nm d mc ms Post cells slots pc l st G := by
  subst hq
  intro p la e s m args below meth c D b0 kk H locs ls C w hl
  intro T0 hT X
  subst hT
  have hz := w.size X
  have hKn := w.1.1 ci _ hc
  have hW : W p la e (rmd d mc ms) s m args below meth c T0.heap locs cells slots (MQ below (Qm D b0 kk mc Post) args s mc ms (fun q => b0 ≤ q)) (F0 m pc ls (st.map (rv b0))) := by
    refine W.newcK C.1 C.2.1 C.2.2.2.2.1 (C.2.2.2.2.2.1 _ hcl) (C.2.2.2.2.2.1 _ hins) (C.2.2.2.2.2.1 _ hini) rfl hd h1 h2 hKn.2.1 hz (fun H1 kC hkC e1 z1 o1 => ?_)
    have hb := u_born (tyX ci) C.2.2.2.2.2.1 (cl_in ci _ hc) hKn hkC e1 (cl_ty ci _ hc)
    have hx : va_at D vwCl (b0 + G.length, rc b0 kk (.inr (ci, fs))) H1 := by
      refine ⟨_, hc, ?_⟩
      show t_OB _ _ _ _ _ (vp_V (fs.map (rv b0)))
      rw [hrf]
      exact hb.to hfs
    exact k p la e s m args below meth c D b0 kk H1 locs ls C (w.push hz z1 o1 hx) hl
  exact hW T0 rfl X
theorem fv_newI {n : Int32} (N : Nat) (hd : decode cc pc = .ok (.newarray .int, 2)) (harr : Cond.arrayClass .int ∈ lw_ok) (hn : ¬ n < 0) (hN : n.toNatClampNeg = N) (hb8 : N * 8 ≤ 536870912) (h1 : cells + 1 ≤ mc) (h2 : slots + N ≤ ms) (hq : pc + 2 = q) (k : FV cc nL ret own nm d mc ms Post (cells + 1) (slots + N) q l (.ref G.length :: st) (G ++ [.inl (0, N, .inl (fun _ => 0))])) : FV cc nL ret own nm d mc ms Post cells slots pc l (.int n :: st) G := by
  subst hq
  intro p la e s m args below meth c D b0 kk H locs ls C w hl
  intro T0 hT X
  subst hT
  have hz := w.size X
  have hW : W p la e (rmd d mc ms) s m args below meth c T0.heap locs cells slots (MQ below (Qm D b0 kk mc Post) args s mc ms (fun q => b0 ≤ q)) (F0 m pc ls ((.int n :: st).map (rv b0))) := by
    refine va_newaK (atype := .int) C.1 C.2.1 (C.2.2.2.2.2.1 _ harr) rfl hd rfl hn hN (Nat.le_trans (Nat.mul_le_mul_left N (show componentBytes (newarray.typeOf ArrayType.int) ≤ 8 by decide)) hb8) h1 h2 hz (fun H1 cA e1 z1 o1 hAr hNm => ?_)
    have hcA : cA = kk 0 := Option.some.inj (hNm.symm.trans (w.1.2 0 _ rfl).2)
    rw [hcA] at e1
    exact k p la e s m args below meth c D b0 kk H1 locs ls C (w.push (x := .inl (0, N, .inl (fun _ => 0))) hz z1 o1 e1) hl
  exact hW T0 rfl X
theorem fv_newJ {n : Int32} (N : Nat) (hd : decode cc pc = .ok (.newarray .long, 2)) (harr : Cond.arrayClass .long ∈ lw_ok) (hn : ¬ n < 0) (hN : n.toNatClampNeg = N) (hb8 : N * 8 ≤ 536870912) (h1 : cells + 1 ≤ mc) (h2 : slots + N ≤ ms) (hq : pc + 2 = q) (k : FV cc nL ret own nm d mc ms Post (cells + 1) (slots + N) q l (.ref G.length :: st) (G ++ [.inl (1, N, .inr (.inl (fun _ => 0)))])) : FV cc nL ret own nm d mc ms Post cells slots pc l (.int n :: st) G := by
  subst hq
  intro p la e s m args below meth c D b0 kk H locs ls C w hl
  intro T0 hT X
  subst hT
  have hz := w.size X
  have hW : W p la e (rmd d mc ms) s m args below meth c T0.heap locs cells slots (MQ below (Qm D b0 kk mc Post) args s mc ms (fun q => b0 ≤ q)) (F0 m pc ls ((.int n :: st).map (rv b0))) := by
    refine va_newaK (atype := .long) C.1 C.2.1 (C.2.2.2.2.2.1 _ harr) rfl hd rfl hn hN (Nat.le_trans (Nat.mul_le_mul_left N (show componentBytes (newarray.typeOf ArrayType.long) ≤ 8 by decide)) hb8) h1 h2 hz (fun H1 cA e1 z1 o1 hAr hNm => ?_)
    have hcA : cA = kk 1 := Option.some.inj (hNm.symm.trans (w.1.2 1 _ rfl).2)
    rw [hcA] at e1
    exact k p la e s m args below meth c D b0 kk H1 locs ls C (w.push (x := .inl (1, N, .inr (.inl (fun _ => 0)))) hz z1 o1 e1) hl
  exact hW T0 rfl X
theorem fv_newZ {n : Int32} (N : Nat) (hd : decode cc pc = .ok (.newarray .boolean, 2)) (harr : Cond.arrayClass .boolean ∈ lw_ok) (hn : ¬ n < 0) (hN : n.toNatClampNeg = N) (hb8 : N * 8 ≤ 536870912) (h1 : cells + 1 ≤ mc) (h2 : slots + N ≤ ms) (hq : pc + 2 = q) (k : FV cc nL ret own nm d mc ms Post (cells + 1) (slots + N) q l (.ref G.length :: st) (G ++ [.inl (2, N, .inl (fun _ => 0))])) : FV cc nL ret own nm d mc ms Post cells slots pc l (.int n :: st) G := by
  subst hq
  intro p la e s m args below meth c D b0 kk H locs ls C w hl
  intro T0 hT X
  subst hT
  have hz := w.size X
  have hW : W p la e (rmd d mc ms) s m args below meth c T0.heap locs cells slots (MQ below (Qm D b0 kk mc Post) args s mc ms (fun q => b0 ≤ q)) (F0 m pc ls ((.int n :: st).map (rv b0))) := by
    refine va_newaK (atype := .boolean) C.1 C.2.1 (C.2.2.2.2.2.1 _ harr) rfl hd rfl hn hN (Nat.le_trans (Nat.mul_le_mul_left N (show componentBytes (newarray.typeOf ArrayType.boolean) ≤ 8 by decide)) hb8) h1 h2 hz (fun H1 cA e1 z1 o1 hAr hNm => ?_)
    have hcA : cA = kk 2 := Option.some.inj (hNm.symm.trans (w.1.2 2 _ rfl).2)
    rw [hcA] at e1
    exact k p la e s m args below meth c D b0 kk H1 locs ls C (w.push (x := .inl (2, N, .inl (fun _ => 0))) hz z1 o1 e1) hl
  exact hW T0 rfl X
theorem fv_anew3 {n : Int32} {idx : Nat} (N : Nat) (hd : decode cc pc = .ok (.anewarray idx, 3)) (hcl : Cond.classLink own idx RX5 ∈ lw_ok) (hn : ¬ n < 0) (hN : n.toNatClampNeg = N) (hb8 : N * 4 ≤ 536870912) (h1 : cells + 1 ≤ mc) (h2 : slots + N ≤ ms) (hq : pc + 3 = q) (k : FV cc nL ret own nm d mc ms Post (cells + 1) (slots + N) q l (.ref G.length :: st) (G ++ [.inl (3, N, .inr (.inr (.inr (.inr (fun _ => none)))))])) : FV cc nL ret own nm d mc ms Post cells slots pc l (.int n :: st) G := by
  subst hq
  subst hN
  intro p la e s m args below meth c D b0 kk H locs ls C w hl
  intro T0 hT X
  subst hT
  have hz := w.size X
  have hW : W p la e (rmd d mc ms) s m args below meth c T0.heap locs cells slots (MQ below (Qm D b0 kk mc Post) args s mc ms (fun q => b0 ≤ q)) (F0 m pc ls ((.int n :: st).map (rv b0))) := by
    refine W.anew C.1 C.2.1 C.2.2.2.2.1 (C.2.2.2.2.2.1 _ hcl) (va_AO.use w.2.2.2.2.2.2.1) rfl hd rfl hn hb8 h1 h2 (fun cA kA comp f1 f2 f3 f4 => ?_)
    generalize hH1 : T0.heap.push ({ cls := cA, slots := Array.replicate n.toNatClampNeg .null, vm := .none } : Cell) = H1
    have z1 : H1.size = b0 + G.length + 1 := by rw [← hH1, Array.size_push, hz]
    have e1 : H1[b0 + G.length]? = some (arrV cA n.toNatClampNeg (fun _ => .null)) := by rw [← hH1, ← hz, Array.getElem?_push_size, ← arrV_new]
    have o1 : ∀ q : Nat, q < b0 + G.length → H1[q]? = T0.heap[q]? := fun q hq => by rw [← hH1, Array.getElem?_push, if_neg (by omega)]
    obtain ⟨-, -, -, -, -, hnm2⟩ := (w.1.2 3 _ rfl).2
    have hcA : cA = kk 3 := Option.some.inj (f1.symm.trans hnm2)
    rw [hcA] at e1
    have hk := k p la e s m args below meth c D b0 kk H1 locs ls C (w.push (x := .inl (3, n.toNatClampNeg, .inr (.inr (.inr (.inr (fun _ => none)))))) hz z1 o1 e1) hl
    have e9 : F0 m (pc + 3) ls ((.ref G.length :: st).map (rv b0)) = { F0 m pc ls ((.int n :: st).map (rv b0)) with pc := pc + 3, stack := .ref T0.heap.size :: st.map (rv b0) } := by
      rw [hz]; rfl
    rw [e9] at hk
    exact hk
  exact hW T0 rfl X
theorem fv_anew4 {n : Int32} {idx : Nat} (N : Nat) (hd : decode cc pc = .ok (.anewarray idx, 3)) (hcl : Cond.classLink own idx RX2 ∈ lw_ok) (hn : ¬ n < 0) (hN : n.toNatClampNeg = N) (hb8 : N * 4 ≤ 536870912) (h1 : cells + 1 ≤ mc) (h2 : slots + N ≤ ms) (hq : pc + 3 = q) (k : FV cc nL ret own nm d mc ms Post (cells + 1) (slots + N) q l (.ref G.length :: st) (G ++ [.inl (4, N, .inr (.inr (.inr (.inr (fun _ => none)))))])) : FV cc nL ret own nm d mc ms Post cells slots pc l (.int n :: st) G := by
  subst hq
  subst hN
  intro p la e s m args below meth c D b0 kk H locs ls C w hl
  intro T0 hT X
  subst hT
  have hz := w.size X
  have hW : W p la e (rmd d mc ms) s m args below meth c T0.heap locs cells slots (MQ below (Qm D b0 kk mc Post) args s mc ms (fun q => b0 ≤ q)) (F0 m pc ls ((.int n :: st).map (rv b0))) := by
    refine W.anew C.1 C.2.1 C.2.2.2.2.1 (C.2.2.2.2.2.1 _ hcl) (va_AO.use w.2.2.2.2.2.2.2) rfl hd rfl hn hb8 h1 h2 (fun cA kA comp f1 f2 f3 f4 => ?_)
    generalize hH1 : T0.heap.push ({ cls := cA, slots := Array.replicate n.toNatClampNeg .null, vm := .none } : Cell) = H1
    have z1 : H1.size = b0 + G.length + 1 := by rw [← hH1, Array.size_push, hz]
    have e1 : H1[b0 + G.length]? = some (arrV cA n.toNatClampNeg (fun _ => .null)) := by rw [← hH1, ← hz, Array.getElem?_push_size, ← arrV_new]
    have o1 : ∀ q : Nat, q < b0 + G.length → H1[q]? = T0.heap[q]? := fun q hq => by rw [← hH1, Array.getElem?_push, if_neg (by omega)]
    obtain ⟨-, -, -, -, -, hnm2⟩ := (w.1.2 4 _ rfl).2
    have hcA : cA = kk 4 := Option.some.inj (f1.symm.trans hnm2)
    rw [hcA] at e1
    have hk := k p la e s m args below meth c D b0 kk H1 locs ls C (w.push (x := .inl (4, n.toNatClampNeg, .inr (.inr (.inr (.inr (fun _ => none)))))) hz z1 o1 e1) hl
    have e9 : F0 m (pc + 3) ls ((.ref G.length :: st).map (rv b0)) = { F0 m pc ls ((.int n :: st).map (rv b0)) with pc := pc + 3, stack := .ref T0.heap.size :: st.map (rv b0) } := by
      rw [hz]; rfl
    rw [e9] at hk
    exact hk
  exact hW T0 rfl X
theorem fv_obj {idx i : Nat} (hd : decode cc pc = .ok (.invokespecial idx, 3)) (hm : Cond.methodLink own idx objectInit ∈ lw_ok) (ho : Cond.instanceMethod objectInit ∈ lw_ok) (hc : Cond.code objectInit ⟨#[0xb1]⟩ 1 none ∈ lw_ok) (hdp : 1 ≤ d) (hst : (st.map fun v => v.category).sum ≤ 8) (hq : pc + 3 = q) (k : FV cc nL ret own nm d mc ms Post cells slots q l st G) : FV cc nL ret own nm d mc ms Post cells slots pc l (.ref i :: st) G := by
  subst hq
  intro p la e s m args below meth c D b0 kk H locs ls C w hl
  refine W.objInit C.1 C.2.1 C.2.2.2.2.1 (C.2.2.2.2.2.1 _ hm) (C.2.2.2.2.2.1 _ ho) (C.2.2.2.2.2.1 _ hc) rfl (by rw [C.2.2.2.1]; exact hl.1) rfl hd hdp ?_ (k p la e s m args below meth c D b0 kk H locs ls C w hl)
  have h9 : ((st.map (rv b0)).map fun v => v.category) = st.map fun v => v.category := by
    rw [List.map_map]
    exact List.map_congr_left (fun v _ => rv_cat b0 v)
  show 2 * 0 + ((st.map (rv b0)).map fun v => v.category).sum + 12 ≤ 30 * d
  rw [h9]
  omega
end
