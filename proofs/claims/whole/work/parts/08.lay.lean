/-! the cells of both objects, numbered as they are made; what they hold: D of ints, J of longs -/
abbrev sT : Type := (Nat × Nat) ⊕ (Nat × List (Option Nat))
def tabS (t : Nat) : List sT := [.inr (5, [some (t + 1), some (t + 2), some (t + 3), none, none, none, none, none, none]), .inl (0, 40), .inl (0, 40), .inl (0, 40)]
def ordS (o : Nat) : List sT := .inr (4, [some (o + 1), some (o + 5), some (o + 6), some (o + 7), some (o + 8)]) :: (tabS (o + 1) ++ [.inl (0, 40), .inl (0, 40), .inl (0, 40), .inl (0, 40)])
def lenS (b : Nat) : List sT := .inr (3, [some (b + 1), some (b + 2), some (b + 10), some (b + 11), some (b + 12), none, none]) :: (ordS (b + 1) ++ [.inl (0, 40), .inl (0, 40), .inl (1, 40)])
def hisS : List sT := .inr (1, [some 28, none, none]) :: .inl (3, 20) :: (List.range 20).flatMap (fun k => tabS (29 + 4 * k))
def imgS (i : Nat) : List sT := .inr (2, [some (i + 1), none, none]) :: tabS (i + 1)
def mdlS : List sT := [.inr (7, [some 125, some 126, some 127, none, some 128, some 129, none, some 130, none, some 131, some 132, some 133, some 134, some 135, some 136, some 137, none, none, none, some 138, some 139, none, some 140, some 141, some 142]), .inl (0, 126), .inl (0, 126), .inl (0, 2520), .inl (0, 254), .inl (2, 2), .inl (0, 60), .inl (0, 40), .inl (0, 40), .inl (0, 40), .inl (0, 40), .inl (0, 40), .inl (0, 40), .inl (0, 40), .inl (0, 40), .inl (0, 40), .inl (1, 40), .inl (0, 40), .inl (0, 40)]
def shX : List sT := .inr (6, [some 1, some 2, some 3, some 14, some 15, some 16, some 27, some 109, some 113, none]) :: (lenS 1 ++ (lenS 14 ++ (hisS ++ ([.inr (0, [some 110, some 111, some 112, none]), .inl (0, 20), .inl (0, 20), .inl (0, 20), .inl (4, 2)] ++ (imgS 114 ++ imgS 119)))))
def shL : List sT := shX ++ mdlS
def fcell (D : Nat → Nat → Int32) (J : Nat → Nat → Int64) (i : Nat) (s : sT) : va_E := match s with
  | .inl (1, n) => .inl (1, n, .inr (.inl (J i)))
  | .inl (3, n) => .inl (3, n, .inr (.inr (.inr (.inr (fun j => if j < n then some (29 + 4 * j) else none)))))
  | .inl (4, n) => .inl (4, n, .inr (.inr (.inr (.inr (fun j => if j < n then some (114 + 5 * j) else none)))))
  | .inl (t, n) => .inl (t, n, .inl (D i))
  | .inr (c, fs) => .inr (c, fs.mapIdx (fun k f => match f with
    | none => .int (D i k)
    | some j => .ref j))
def lay (D : Nat → Nat → Int32) (J : Nat → Nat → Int64) : List va_E := shL.mapIdx (fcell D J)
theorem lay_get {D : Nat → Nat → Int32} {J : Nat → Nat → Int64} {i : Nat} {s : sT} (h : shL[i]? = some s) : (lay D J)[i]? = some (fcell D J i s) := by
  unfold lay
  rw [List.getElem?_mapIdx, h]; rfl
theorem lay_set {D D' : Nat → Nat → Int32} {J J' : Nat → Nat → Int64} {i : Nat} {s : sT} (h : shL[i]? = some s) (hD : ∀ a, a ≠ i → D' a = D a) (hJ : ∀ a, a ≠ i → J' a = J a) : (lay D J).set i (fcell D' J' i s) = lay D' J' := by
  apply List.ext_getElem?
  intro j
  by_cases hj : i = j
  · subst hj
    have hl : i < (lay D J).length := (List.getElem?_eq_some_iff.mp (lay_get (D := D) (J := J) h)).1
    rw [List.getElem?_set_self hl, lay_get h]
  · rw [List.getElem?_set_ne hj]
    unfold lay
    rw [List.getElem?_mapIdx, List.getElem?_mapIdx]
    cases hs : shL[j]? with
    | none => rfl
    | some t =>
      have e1 : D' j = D j := hD j (fun z => hj z.symm)
      have e2 : J' j = J j := hJ j (fun z => hj z.symm)
      simp only [Option.map_some, Option.some.injEq]
      unfold fcell
      rw [e1, e2]
def up (D : Nat → Nat → Int32) (i k : Nat) (v : Int32) : Nat → Nat → Int32 := fun a => if a = i then upd (D i) k v else D a
def uj (J : Nat → Nat → Int64) (i k : Nat) (v : Int64) : Nat → Nat → Int64 := fun a => if a = i then vp_updL (J i) k v else J a
theorem up_s (D : Nat → Nat → Int32) (i k : Nat) (v : Int32) : up D i k v i = upd (D i) k v := by simp [up]
theorem up_n (D : Nat → Nat → Int32) {i a : Nat} (k : Nat) (v : Int32) (h : a ≠ i) : up D i k v a = D a := by simp [up, h]
theorem uj_s (J : Nat → Nat → Int64) (i k : Nat) (v : Int64) : uj J i k v i = vp_updL (J i) k v := by simp [uj]
theorem uj_n (J : Nat → Nat → Int64) {i a : Nat} (k : Nat) (v : Int64) (h : a ≠ i) : uj J i k v a = J a := by simp [uj, h]
def cpa (D : Nat → Nat → Int32) (i0 i1 sp dp n : Nat) : Nat → Nat → Int32 := fun a => if a = i1 then va_cpy (D i0) (D i1) sp dp n else D a
theorem cpa_s (D : Nat → Nat → Int32) (i0 i1 sp dp n : Nat) : cpa D i0 i1 sp dp n i1 = va_cpy (D i0) (D i1) sp dp n := by simp [cpa]
theorem cpa_n (D : Nat → Nat → Int32) {i0 i1 a : Nat} (sp dp n : Nat) (h : a ≠ i1) : cpa D i0 i1 sp dp n a = D a := by simp [cpa, h]
theorem fl_in {x : Int32} {j n : Nat} (hx : x = nI j) (hj : j < n) (hn : n < 2 ^ 31) : vp_in x n ∧ x.toNatClampNeg = j := by
  subst hx
  exact ⟨vp_in_nI hj hn, nI_clamp (by omega)⟩
section
variable {cc : ByteArray} {nL : Nat} {ret : Option FieldType} {own nm : String} {d : Nat} {Post : Option Value → List va_E → Prop} {pc q : Nat} {l l' : List (Option Value)} {st st0 : List Value} {D : Nat → Nat → Int32} {J : Nat → Nat → Int64}
theorem fl_getI {i ci f idx : Nat} {fs : List (Option Nat)} (hd : decode cc pc = .ok (.getfield idx, 3)) (hF : FL own idx ci f) (hs : shL[i]? = some (.inr (ci, fs))) (hk : fs[f]? = some none) (hq : pc + 3 = q) (k : FV cc nL ret own nm d 0 0 Post 0 0 q l (.int (D i f) :: st) (lay D J)) : FV cc nL ret own nm d 0 0 Post 0 0 pc l (.ref i :: st) (lay D J) :=
  fv_getf hd hF (lay_get hs) (by rw [List.getElem?_mapIdx, hk]; rfl) hq k
theorem fl_getR {i ci f idx j : Nat} {fs : List (Option Nat)} (hd : decode cc pc = .ok (.getfield idx, 3)) (hF : FL own idx ci f) (hs : shL[i]? = some (.inr (ci, fs))) (hk : fs[f]? = some (some j)) (hq : pc + 3 = q) (k : FV cc nL ret own nm d 0 0 Post 0 0 q l (.ref j :: st) (lay D J)) : FV cc nL ret own nm d 0 0 Post 0 0 pc l (.ref i :: st) (lay D J) :=
  fv_getf hd hF (lay_get hs) (by rw [List.getElem?_mapIdx, hk]; rfl) hq k
theorem fl_put {i ci f idx : Nat} {x : Int32} {ty : FieldType} {fs : List (Option Nat)} (hd : decode cc pc = .ok (.putfield idx, 3)) (hF : FL own idx ci f) (hs : shL[i]? = some (.inr (ci, fs))) (hk : fs[f]? = some none) (hfin : (finX ci f).1 = false) (hty : tyX ci f = ty) (hn : narrow ty (.int x) = .int x) (hfit : fits ty (.int x) = true) (hq : pc + 3 = q) (k : FV cc nL ret own nm d 0 0 Post 0 0 q l st (lay (up D i f x) J)) : FV cc nL ret own nm d 0 0 Post 0 0 pc l (.int x :: .ref i :: st) (lay D J) := by
  have hlt : f < fs.length := (List.getElem?_eq_some_iff.mp hk).1
  refine fv_putf hd hF (lay_get hs) hfin hty hn hfit (by rw [List.length_mapIdx]; exact hlt) hq ?_
  have e := lay_set (D := D) (D' := up D i f x) (J := J) (J' := J) hs (fun a ha => up_n D f x ha) (fun _ _ => rfl)
  rw [← e] at k
  have e2 : fcell (up D i f x) J i (.inr (ci, fs)) = .inr (ci, (fs.mapIdx (fun k f => match f with
    | none => Value.int (D i k)
    | some j => .ref j)).set f (.int x)) := by
    refine congrArg (fun z => (Sum.inr (ci, z) : va_E)) ?_
    apply List.ext_getElem?
    intro b
    rw [List.getElem?_mapIdx]
    by_cases hb : f = b
    · subst hb
      rw [List.getElem?_set_self (by rw [List.length_mapIdx]; exact hlt), hk]
      show some (Value.int (up D i f x i f)) = _
      rw [up_s, pk_us]
    · rw [List.getElem?_set_ne hb, List.getElem?_mapIdx]
      cases fs[b]? with
      | none => rfl
      | some o =>
        cases o with
        | some j => rfl
        | none =>
          show some (Value.int (up D i f x i b)) = some (Value.int (D i b))
          rw [up_s, pk_un (fun z => hb z.symm)]
  rw [e2] at k
  exact k
theorem fl_putI {i ci f idx : Nat} {x : Int32} {fs : List (Option Nat)} (hd : decode cc pc = .ok (.putfield idx, 3)) (hF : FL own idx ci f) (hs : shL[i]? = some (.inr (ci, fs))) (hk : fs[f]? = some none) (hfin : (finX ci f).1 = false) (hty : tyX ci f = .int) (hq : pc + 3 = q) (k : FV cc nL ret own nm d 0 0 Post 0 0 q l st (lay (up D i f x) J)) : FV cc nL ret own nm d 0 0 Post 0 0 pc l (.int x :: .ref i :: st) (lay D J) :=
  fl_put hd hF hs hk hfin hty rfl rfl hq k
theorem nar_z {x : Int32} (hx : x = 0 ∨ x = 1) : narrow .boolean (.int x) = .int x ∧ fits .boolean (.int x) = true := by
  rcases hx with rfl | rfl
  · exact ⟨by decide, by decide⟩
  · exact ⟨by decide, by decide⟩
theorem fl_putZ {i ci f idx : Nat} {x : Int32} {fs : List (Option Nat)} (hd : decode cc pc = .ok (.putfield idx, 3)) (hF : FL own idx ci f) (hs : shL[i]? = some (.inr (ci, fs))) (hk : fs[f]? = some none) (hfin : (finX ci f).1 = false) (hty : tyX ci f = .boolean) (hx : x = 0 ∨ x = 1) (hq : pc + 3 = q) (k : FV cc nL ret own nm d 0 0 Post 0 0 q l st (lay (up D i f x) J)) : FV cc nL ret own nm d 0 0 Post 0 0 pc l (.int x :: .ref i :: st) (lay D J) :=
  fl_put hd hF hs hk hfin hty (nar_z hx).1 (nar_z hx).2 hq k
theorem fl_iald {i n : Nat} {x : Int32} (j : Nat) (hd : decode cc pc = .ok (.iaload, 1)) (hs : shL[i]? = some (.inl (0, n))) (hn : n < 2 ^ 31) (hx : x = nI j) (hj : j < n) (hq : pc + 1 = q) (k : FV cc nL ret own nm d 0 0 Post 0 0 q l (.int (D i j) :: st) (lay D J)) : FV cc nL ret own nm d 0 0 Post 0 0 pc l (.int x :: .ref i :: st) (lay D J) := by
  obtain ⟨h1, h2⟩ := fl_in hx hj hn
  exact fv_iaload hd (lay_get hs) h1 hq (by rw [h2]; exact k)
theorem fl_zald {i n : Nat} {x : Int32} (j : Nat) (hd : decode cc pc = .ok (.baload, 1)) (hs : shL[i]? = some (.inl (2, n))) (hn : n < 2 ^ 31) (hx : x = nI j) (hj : j < n) (hq : pc + 1 = q) (k : FV cc nL ret own nm d 0 0 Post 0 0 q l (.int (D i j) :: st) (lay D J)) : FV cc nL ret own nm d 0 0 Post 0 0 pc l (.int x :: .ref i :: st) (lay D J) := by
  obtain ⟨h1, h2⟩ := fl_in hx hj hn
  exact fv_zaload hd (lay_get hs) h1 hq (by rw [h2]; exact k)
theorem fl_lald {i n : Nat} {x : Int32} (j : Nat) (hd : decode cc pc = .ok (.laload, 1)) (hs : shL[i]? = some (.inl (1, n))) (hn : n < 2 ^ 31) (hx : x = nI j) (hj : j < n) (hq : pc + 1 = q) (k : FV cc nL ret own nm d 0 0 Post 0 0 q l (.long (J i j) :: st) (lay D J)) : FV cc nL ret own nm d 0 0 Post 0 0 pc l (.int x :: .ref i :: st) (lay D J) := by
  obtain ⟨h1, h2⟩ := fl_in hx hj hn
  exact fv_laload hd (lay_get hs) h1 hq (by rw [h2]; exact k)
theorem fl_iast {i n : Nat} {x v : Int32} (j : Nat) (hd : decode cc pc = .ok (.iastore, 1)) (hs : shL[i]? = some (.inl (0, n))) (hn : n < 2 ^ 31) (hx : x = nI j) (hj : j < n) (hq : pc + 1 = q) (k : FV cc nL ret own nm d 0 0 Post 0 0 q l st (lay (up D i j v) J)) : FV cc nL ret own nm d 0 0 Post 0 0 pc l (.int v :: .int x :: .ref i :: st) (lay D J) := by
  obtain ⟨h1, h2⟩ := fl_in hx hj hn
  refine fv_iastore hd (lay_get hs) h1 hq ?_
  rw [h2]
  have e := lay_set (D := D) (D' := up D i j v) (J := J) (J' := J) hs (fun a ha => up_n D j v ha) (fun _ _ => rfl)
  rw [← e] at k
  have e2 : fcell (up D i j v) J i (.inl (0, n)) = .inl (0, n, .inl (upd (D i) j v)) := by
    show (Sum.inl (0, n, Sum.inl (up D i j v i)) : va_E) = _
    rw [up_s]
  rw [e2] at k
  exact k
theorem fl_zast {i n : Nat} {x v : Int32} (j : Nat) (hd : decode cc pc = .ok (.bastore, 1)) (hs : shL[i]? = some (.inl (2, n))) (hn : n < 2 ^ 31) (hx : x = nI j) (hj : j < n) (hv : vp_nar .boolean v = v) (hq : pc + 1 = q) (k : FV cc nL ret own nm d 0 0 Post 0 0 q l st (lay (up D i j v) J)) : FV cc nL ret own nm d 0 0 Post 0 0 pc l (.int v :: .int x :: .ref i :: st) (lay D J) := by
  obtain ⟨h1, h2⟩ := fl_in hx hj hn
  refine fv_zastore hd (lay_get hs) h1 hq ?_
  rw [h2, hv]
  have e := lay_set (D := D) (D' := up D i j v) (J := J) (J' := J) hs (fun a ha => up_n D j v ha) (fun _ _ => rfl)
  rw [← e] at k
  have e2 : fcell (up D i j v) J i (.inl (2, n)) = .inl (2, n, .inl (upd (D i) j v)) := by
    show (Sum.inl (2, n, Sum.inl (up D i j v i)) : va_E) = _
    rw [up_s]
  rw [e2] at k
  exact k
theorem fl_last {i n : Nat} {x : Int32} {v : Int64} (j : Nat) (hd : decode cc pc = .ok (.lastore, 1)) (hs : shL[i]? = some (.inl (1, n))) (hn : n < 2 ^ 31) (hx : x = nI j) (hj : j < n) (hq : pc + 1 = q) (k : FV cc nL ret own nm d 0 0 Post 0 0 q l st (lay D (uj J i j v))) : FV cc nL ret own nm d 0 0 Post 0 0 pc l (.long v :: .int x :: .ref i :: st) (lay D J) := by
  obtain ⟨h1, h2⟩ := fl_in hx hj hn
  refine fv_lastore hd (lay_get hs) h1 hq ?_
  rw [h2]
  have e := lay_set (D := D) (D' := D) (J := J) (J' := uj J i j v) hs (fun _ _ => rfl) (fun a ha => uj_n J j v ha)
  rw [← e] at k
  have e2 : fcell D (uj J i j v) i (.inl (1, n)) = .inl (1, n, .inr (.inl (vp_updL (J i) j v))) := by
    show (Sum.inl (1, n, Sum.inr (Sum.inl (uj J i j v i))) : va_E) = _
    rw [uj_s]
  rw [e2] at k
  exact k
theorem fl_aald3 {i n : Nat} {x : Int32} (j : Nat) (hd : decode cc pc = .ok (.aaload, 1)) (hs : shL[i]? = some (.inl (3, n))) (hn : n < 2 ^ 31) (hx : x = nI j) (hj : j < n) (hq : pc + 1 = q) (k : FV cc nL ret own nm d 0 0 Post 0 0 q l (.ref (29 + 4 * j) :: st) (lay D J)) : FV cc nL ret own nm d 0 0 Post 0 0 pc l (.int x :: .ref i :: st) (lay D J) := by
  obtain ⟨h1, h2⟩ := fl_in hx hj hn
  exact fv_aaload3 hd (lay_get hs) h1 (by rw [h2, if_pos hj]) hq k
theorem fl_aald4 {i n : Nat} {x : Int32} (j : Nat) (hd : decode cc pc = .ok (.aaload, 1)) (hs : shL[i]? = some (.inl (4, n))) (hn : n < 2 ^ 31) (hx : x = nI j) (hj : j < n) (hq : pc + 1 = q) (k : FV cc nL ret own nm d 0 0 Post 0 0 q l (.ref (114 + 5 * j) :: st) (lay D J)) : FV cc nL ret own nm d 0 0 Post 0 0 pc l (.int x :: .ref i :: st) (lay D J) := by
  obtain ⟨h1, h2⟩ := fl_in hx hj hn
  exact fv_aaload4 hd (lay_get hs) h1 (by rw [h2, if_pos hj]) hq k
theorem fl_copyi {idx i0 i1 n0 n1 : Nat} {x y z : Int32} (sp dp n : Nat) (hd : decode cc pc = .ok (.invokestatic idx, 3)) (hm : Cond.methodLink own idx arraycopyName ∈ lw_ok) (hs0 : shL[i0]? = some (.inl (0, n0))) (hs1 : shL[i1]? = some (.inl (0, n1))) (hx : x = nI sp) (hy : y = nI dp) (hz : z = nI n) (h4 : sp + n ≤ n0) (h5 : dp + n ≤ n1) (hn0 : n0 < 2 ^ 31) (hn1 : n1 < 2 ^ 31) (hdd : 1 ≤ d) (hs8 : (st.map fun v => v.category).sum ≤ 8) (hq : pc + 3 = q)
    (k : FV cc nL ret own nm d 0 0 Post 0 0 q l st (lay (cpa D i0 i1 sp dp n) J)) : FV cc nL ret own nm d 0 0 Post 0 0 pc l (.int z :: .int y :: .ref i1 :: .int x :: .ref i0 :: st) (lay D J) := by
  subst hx hy hz
  have c1 : (nI sp).toNatClampNeg = sp := nI_clamp (by omega)
  have c2 : (nI dp).toNatClampNeg = dp := nI_clamp (by omega)
  have c3 : (nI n).toNatClampNeg = n := nI_clamp (by omega)
  refine fv_copyi (f := D i0) (g := D i1) (n0 := n0) (n1 := n1) hd hm w_acn w_acs w_sys (lay_get hs0) (lay_get hs1) (nI_pos (by omega)) (nI_pos (by omega)) (nI_pos (by omega)) (by rw [c1, c3]; exact h4) (by rw [c2, c3]; exact h5) hdd hs8 hq ?_
  rw [c1, c2, c3]
  have e := lay_set (D := D) (D' := cpa D i0 i1 sp dp n) (J := J) (J' := J) hs1 (fun a ha => cpa_n D sp dp n ha) (fun _ _ => rfl)
  rw [← e] at k
  have e2 : fcell (cpa D i0 i1 sp dp n) J i1 (.inl (0, n1)) = .inl (0, n1, .inl (va_cpy (D i0) (D i1) sp dp n)) := by
    show (Sum.inl (0, n1, Sum.inl (cpa D i0 i1 sp dp n i1)) : va_E) = _
    rw [cpa_s]
  rw [e2] at k
  exact k
end
/-- contracts over this world -/
def FD (y : MethodName) (bc : ByteArray) (mL : Nat) (rt : Option FieldType) (d : Nat) (av : List Value) (D : Nat → Nat → Int32) (J : Nat → Nat → Int64) (P : Option Value → (Nat → Nat → Int32) → (Nat → Nat → Int64) → Prop) : Prop :=
  FC y bc mL rt d 0 0 av (lay D J) (fun res G => ∃ D' J', G = lay D' J' ∧ P res D' J')
def FI (y : MethodName) (bc : ByteArray) (mL : Nat) (rt : Option FieldType) (d : Nat) (av : List Value) (D : Nat → Nat → Int32) (J : Nat → Nat → Int64) (v : Int32) : Prop :=
  FC y bc mL rt d 0 0 av (lay D J) (fun res G => res = some (.int v) ∧ G = lay D J)
section
variable {cc : ByteArray} {nL : Nat} {ret : Option FieldType} {own nm : String} {d : Nat} {Post : Option Value → List va_E → Prop} {pc q : Nat} {l l' : List (Option Value)} {st st0 : List Value} {D : Nat → Nat → Int32} {J : Nat → Nat → Int64}
theorem fl_callV {y : MethodName} {bc : ByteArray} {mL : Nat} {rt : Option FieldType} {n d1 idx i ci : Nat} {fs : List (Option Nat)} {As : List Value} {P : Option Value → (Nat → Nat → Int32) → (Nat → Nat → Int64) → Prop} (hd : decode cc pc = .ok (.invokevirtual idx, 3)) (hw : CV own idx y bc mL rt n) (hst : st0 = As.reverse ++ .ref i :: st) (hs : shL[i]? = some (.inr (ci, fs))) (hcn : (vwCl[ci]?).map (fun z => z.1) = some y.cls) (hn : As.length = n) (hs8 : (st.map fun v => v.category).sum ≤ 8) (hq : pc + 3 = q) (hdd : d1 + 1 ≤ d) (hc : FD y bc mL rt d1 (.ref i :: As) D J P)
    (k : ∀ (res : Option Value) (D' : Nat → Nat → Int32) (J' : Nat → Nat → Int64), P res D' J' → FV cc nL ret own nm d 0 0 Post 0 0 q l (res.toList ++ st) (lay D' J')) : FV cc nL ret own nm d 0 0 Post 0 0 pc l st0 (lay D J) :=
  fv_callV hd hw hst (lay_get hs) hcn hn hs8 hc hdd (Nat.le_refl _) (Nat.le_refl _) hq (fun res G' h => by
    obtain ⟨D', J', hg, hp⟩ := h
    rw [hg]
    exact k res D' J' hp)
theorem fl_callS {y : MethodName} {bc : ByteArray} {mL : Nat} {rt : Option FieldType} {n d1 idx : Nat} {As : List Value} {P : Option Value → (Nat → Nat → Int32) → (Nat → Nat → Int64) → Prop} (hd : decode cc pc = .ok (.invokestatic idx, 3)) (hw : CS own idx y bc mL rt n) (hst : st0 = As.reverse ++ st) (hn : As.length = n) (hs8 : (st.map fun v => v.category).sum ≤ 8) (hq : pc + 3 = q) (hdd : d1 + 1 ≤ d) (hc : FD y bc mL rt d1 As D J P)
    (k : ∀ (res : Option Value) (D' : Nat → Nat → Int32) (J' : Nat → Nat → Int64), P res D' J' → FV cc nL ret own nm d 0 0 Post 0 0 q l (res.toList ++ st) (lay D' J')) : FV cc nL ret own nm d 0 0 Post 0 0 pc l st0 (lay D J) :=
  fv_callS hd hw hst hn hs8 hc hdd (Nat.le_refl _) (Nat.le_refl _) hq (fun res G' h => by
    obtain ⟨D', J', hg, hp⟩ := h
    rw [hg]
    exact k res D' J' hp)
theorem fl_callVi {y : MethodName} {bc : ByteArray} {mL : Nat} {rt : Option FieldType} {n d1 idx i ci : Nat} {fs : List (Option Nat)} {As : List Value} {v : Int32} (hd : decode cc pc = .ok (.invokevirtual idx, 3)) (hw : CV own idx y bc mL rt n) (hst : st0 = As.reverse ++ .ref i :: st) (hs : shL[i]? = some (.inr (ci, fs))) (hcn : (vwCl[ci]?).map (fun z => z.1) = some y.cls) (hn : As.length = n) (hs8 : (st.map fun v => v.category).sum ≤ 8) (hq : pc + 3 = q) (hdd : d1 + 1 ≤ d) (hc : FI y bc mL rt d1 (.ref i :: As) D J v)
    (k : FV cc nL ret own nm d 0 0 Post 0 0 q l (.int v :: st) (lay D J)) : FV cc nL ret own nm d 0 0 Post 0 0 pc l st0 (lay D J) :=
  fv_callV hd hw hst (lay_get hs) hcn hn hs8 hc hdd (Nat.le_refl _) (Nat.le_refl _) hq (fun res G' h => by
    rw [h.1, h.2]
    exact k)
theorem fl_callSi {y : MethodName} {bc : ByteArray} {mL : Nat} {rt : Option FieldType} {n d1 idx : Nat} {As : List Value} {v : Int32} (hd : decode cc pc = .ok (.invokestatic idx, 3)) (hw : CS own idx y bc mL rt n) (hst : st0 = As.reverse ++ st) (hn : As.length = n) (hs8 : (st.map fun v => v.category).sum ≤ 8) (hq : pc + 3 = q) (hdd : d1 + 1 ≤ d) (hc : FI y bc mL rt d1 As D J v)
    (k : FV cc nL ret own nm d 0 0 Post 0 0 q l (.int v :: st) (lay D J)) : FV cc nL ret own nm d 0 0 Post 0 0 pc l st0 (lay D J) :=
  fv_callS hd hw hst hn hs8 hc hdd (Nat.le_refl _) (Nat.le_refl _) hq (fun res G' h => by
    rw [h.1, h.2]
    exact k)
theorem fl_min {idx : Nat} {x y : Int32} (hd : decode cc pc = .ok (.invokestatic idx, 3)) (hm : Cond.methodLink own idx Lib.Math.min.name ∈ lw_ok) (hdd : 1 ≤ d) (hs8 : (st.map fun v => v.category).sum ≤ 8) (hq : pc + 3 = q) (k : FV cc nL ret own nm d 0 0 Post 0 0 q l (.int (if y < x then y else x) :: st) (lay D J)) : FV cc nL ret own nm d 0 0 Post 0 0 pc l (.int y :: .int x :: st) (lay D J) :=
  fv_min hd hm w_mns w_mth w_mnc hdd (Nat.le_refl _) (Nat.le_refl _) hs8 hq k
end

