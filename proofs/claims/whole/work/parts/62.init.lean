/-! constructors: cells that are made one behind another, behind the cells A -/
def ar (n : Nat) : va_E := .inl (0, n, .inl (fun _ => 0))
def arJ (n : Nat) : va_E := .inl (1, n, .inr (.inl (fun _ => 0)))
def arZ (n : Nat) : va_E := .inl (2, n, .inl (fun _ => 0))
def ar3 (n : Nat) (f : Nat → Option Nat) : va_E := .inl (3, n, .inr (.inr (.inr (.inr f))))
def ar4 (n : Nat) (f : Nat → Option Nat) : va_E := .inl (4, n, .inr (.inr (.inr (.inr f))))
theorem gA {A L : List va_E} {t : Nat} (hA : A.length = t) (i : Nat) : (A ++ L)[t + i]? = L[i]? := by
  subst hA
  rw [List.getElem?_append_right (by omega), Nat.add_sub_cancel_left]
theorem sA {A L : List va_E} {t : Nat} (hA : A.length = t) (i : Nat) (x : va_E) : (A ++ L).set (t + i) x = A ++ L.set i x := by
  subst hA
  rw [List.set_append_right _ _ (by omega), Nat.add_sub_cancel_left]
section
variable {cc : ByteArray} {nL : Nat} {ret : Option FieldType} {own nm : String} {d mc ms : Nat} {Post : Option Value → List va_E → Prop} {cells slots pc q : Nat} {l l' : List (Option Value)} {st st0 : List Value} {A L L' : List va_E} {t k : Nat}
theorem fh_newI {n : Int32} (N : Nat) (hd : decode cc pc = .ok (.newarray .int, 2)) (hn : ¬ n < 0) (hN : n.toNatClampNeg = N) (hb8 : N * 8 ≤ 536870912) (h1 : cells + 1 ≤ mc) (h2 : slots + N ≤ ms) (hA : A.length = t) (hL : L.length = k) (hL' : L ++ [ar N] = L') (hq : pc + 2 = q) (kk : FV cc nL ret own nm d mc ms Post (cells + 1) (slots + N) q l (.ref (t + k) :: st) (A ++ L')) : FV cc nL ret own nm d mc ms Post cells slots pc l (.int n :: st) (A ++ L) := by
  refine fv_newI N hd a_int hn hN hb8 h1 h2 hq ?_
  rw [List.length_append, hA, hL, List.append_assoc]
  subst hL'
  exact kk
theorem fh_newJ {n : Int32} (N : Nat) (hd : decode cc pc = .ok (.newarray .long, 2)) (hn : ¬ n < 0) (hN : n.toNatClampNeg = N) (hb8 : N * 8 ≤ 536870912) (h1 : cells + 1 ≤ mc) (h2 : slots + N ≤ ms) (hA : A.length = t) (hL : L.length = k) (hL' : L ++ [arJ N] = L') (hq : pc + 2 = q) (kk : FV cc nL ret own nm d mc ms Post (cells + 1) (slots + N) q l (.ref (t + k) :: st) (A ++ L')) : FV cc nL ret own nm d mc ms Post cells slots pc l (.int n :: st) (A ++ L) := by
  refine fv_newJ N hd a_long hn hN hb8 h1 h2 hq ?_
  rw [List.length_append, hA, hL, List.append_assoc]
  subst hL'
  exact kk
theorem fh_newZ {n : Int32} (N : Nat) (hd : decode cc pc = .ok (.newarray .boolean, 2)) (hn : ¬ n < 0) (hN : n.toNatClampNeg = N) (hb8 : N * 8 ≤ 536870912) (h1 : cells + 1 ≤ mc) (h2 : slots + N ≤ ms) (hA : A.length = t) (hL : L.length = k) (hL' : L ++ [arZ N] = L') (hq : pc + 2 = q) (kk : FV cc nL ret own nm d mc ms Post (cells + 1) (slots + N) q l (.ref (t + k) :: st) (A ++ L')) : FV cc nL ret own nm d mc ms Post cells slots pc l (.int n :: st) (A ++ L) := by
  refine fv_newZ N hd a_boolean hn hN hb8 h1 h2 hq ?_
  rw [List.length_append, hA, hL, List.append_assoc]
  subst hL'
  exact kk
theorem fh_anew3 {n : Int32} {idx : Nat} (N : Nat) (hd : decode cc pc = .ok (.anewarray idx, 3)) (hcl : Cond.classLink own idx RX5 ∈ lw_ok) (hn : ¬ n < 0) (hN : n.toNatClampNeg = N) (hb8 : N * 4 ≤ 536870912) (h1 : cells + 1 ≤ mc) (h2 : slots + N ≤ ms) (hA : A.length = t) (hL : L.length = k) (hL' : L ++ [ar3 N (fun _ => none)] = L') (hq : pc + 3 = q) (kk : FV cc nL ret own nm d mc ms Post (cells + 1) (slots + N) q l (.ref (t + k) :: st) (A ++ L')) : FV cc nL ret own nm d mc ms Post cells slots pc l (.int n :: st) (A ++ L) := by
  refine fv_anew3 N hd hcl hn hN hb8 h1 h2 hq ?_
  rw [List.length_append, hA, hL, List.append_assoc]
  subst hL'
  exact kk
theorem fh_anew4 {n : Int32} {idx : Nat} (N : Nat) (hd : decode cc pc = .ok (.anewarray idx, 3)) (hcl : Cond.classLink own idx RX2 ∈ lw_ok) (hn : ¬ n < 0) (hN : n.toNatClampNeg = N) (hb8 : N * 4 ≤ 536870912) (h1 : cells + 1 ≤ mc) (h2 : slots + N ≤ ms) (hA : A.length = t) (hL : L.length = k) (hL' : L ++ [ar4 N (fun _ => none)] = L') (hq : pc + 3 = q) (kk : FV cc nL ret own nm d mc ms Post (cells + 1) (slots + N) q l (.ref (t + k) :: st) (A ++ L')) : FV cc nL ret own nm d mc ms Post cells slots pc l (.int n :: st) (A ++ L) := by
  refine fv_anew4 N hd hcl hn hN hb8 h1 h2 hq ?_
  rw [List.length_append, hA, hL, List.append_assoc]
  subst hL'
  exact kk
theorem fh_new {idx ci N : Nat} {Cn : String} {T : u_T} {fs : List Value} (hd : decode cc pc = .ok (.new idx, 3)) (hc : vwCl[ci]? = some (Cn, T, N)) (hcl : Cond.classLink own idx Cn ∈ lw_ok) (hins : Cond.instantiable Cn N ∈ lw_ok) (hini : Cond.initialized Cn ∈ lw_ok) (hfs : ∀ j, j < N → defaultValue (tyX ci j) = vp_V fs j) (hrf : ∀ b, fs.map (rv b) = fs) (h1 : cells + 1 ≤ mc) (h2 : slots + N ≤ ms) (hA : A.length = t) (hL : L.length = k) (hL' : L ++ [.inr (ci, fs)] = L') (hq : pc + 3 = q) (kk : FV cc nL ret own nm d mc ms Post (cells + 1) (slots + N) q l (.ref (t + k) :: st) (A ++ L')) : FV cc nL ret own nm d mc ms Post cells slots pc l st (A ++ L) := by
  refine fv_new hd hc hcl hins hini hfs hrf h1 h2 hq ?_
  rw [List.length_append, hA, hL, List.append_assoc]
  subst hL'
  exact kk
theorem fh_putr {ci f idx j : Nat} {fs : List Value} {ty : FieldType} (i : Nat) (hd : decode cc pc = .ok (.putfield idx, 3)) (hF : FL own idx ci f) (hA : A.length = t) (hG : L[i]? = some (.inr (ci, fs))) (hfin : finX ci f = (true, own)) (hnm : nm = "<init>") (hty : tyX ci f = ty) (hn : ∀ a, narrow ty (.ref a) = .ref a) (hfit : ∀ a, fits ty (.ref a) = true) (hlen : f < fs.length) (hL' : L.set i (.inr (ci, fs.set f (.ref j))) = L') (hq : pc + 3 = q) (k : FV cc nL ret own nm d mc ms Post cells slots q l st (A ++ L')) : FV cc nL ret own nm d mc ms Post cells slots pc l (.ref j :: .ref (t + i) :: st) (A ++ L) := by
  refine fv_putr hd hF (by rw [gA hA]; exact hG) hfin hnm hty hn hfit hlen hq ?_
  rw [sA hA]
  subst hL'
  exact k
theorem fh_putf {ci f idx : Nat} {x : Int32} {fs : List Value} {ty : FieldType} (i : Nat) (hd : decode cc pc = .ok (.putfield idx, 3)) (hF : FL own idx ci f) (hA : A.length = t) (hG : L[i]? = some (.inr (ci, fs))) (hfin : (finX ci f).1 = false) (hty : tyX ci f = ty) (hn : narrow ty (.int x) = .int x) (hfit : fits ty (.int x) = true) (hlen : f < fs.length) (hL' : L.set i (.inr (ci, fs.set f (.int x))) = L') (hq : pc + 3 = q) (k : FV cc nL ret own nm d mc ms Post cells slots q l st (A ++ L')) : FV cc nL ret own nm d mc ms Post cells slots pc l (.int x :: .ref (t + i) :: st) (A ++ L) := by
  refine fv_putf hd hF (by rw [gA hA]; exact hG) hfin hty hn hfit hlen hq ?_
  rw [sA hA]
  subst hL'
  exact k
theorem fh_getf {ci f idx : Nat} {fs : List Value} {v : Value} (i : Nat) (hd : decode cc pc = .ok (.getfield idx, 3)) (hF : FL own idx ci f) (hA : A.length = t) (hG : L[i]? = some (.inr (ci, fs))) (hv : fs[f]? = some v) (hq : pc + 3 = q) (k : FV cc nL ret own nm d mc ms Post cells slots q l (v :: st) (A ++ L)) : FV cc nL ret own nm d mc ms Post cells slots pc l (.ref (t + i) :: st) (A ++ L) :=
  fv_getf hd hF (by rw [gA hA]; exact hG) hv hq k
theorem fh_aast3 {n ci : Nat} {f : Nat → Option Nat} {x : Int32} {vs : List Value} {r : vw_C} (i j : Nat) (hd : decode cc pc = .ok (.aastore, 1)) (hA : A.length = t) (hG : L[i]? = some (ar3 n f)) (hv : L[j]? = some (.inr (ci, vs))) (hc : vwCl[ci]? = some r) (hr : r.1 = RX5) (hin : vp_in x n) (hL' : L.set i (ar3 n (va_up f x.toNatClampNeg (some (t + j)))) = L') (hq : pc + 1 = q) (k : FV cc nL ret own nm d mc ms Post cells slots q l st (A ++ L')) : FV cc nL ret own nm d mc ms Post cells slots pc l (.ref (t + j) :: .int x :: .ref (t + i) :: st) (A ++ L) := by
  refine fv_aastore3 hd (by rw [gA hA]; exact hG) (by rw [gA hA]; exact hv) hc hr hin hq ?_
  have e := sA (L := L) hA i (ar3 n (va_up f x.toNatClampNeg (some (t + j))))
  rw [hL'] at e
  exact e.symm ▸ k
theorem fh_aast4 {n ci : Nat} {f : Nat → Option Nat} {x : Int32} {vs : List Value} {r : vw_C} (i j : Nat) (hd : decode cc pc = .ok (.aastore, 1)) (hA : A.length = t) (hG : L[i]? = some (ar4 n f)) (hv : L[j]? = some (.inr (ci, vs))) (hc : vwCl[ci]? = some r) (hr : r.1 = RX2) (hin : vp_in x n) (hL' : L.set i (ar4 n (va_up f x.toNatClampNeg (some (t + j)))) = L') (hq : pc + 1 = q) (k : FV cc nL ret own nm d mc ms Post cells slots q l st (A ++ L')) : FV cc nL ret own nm d mc ms Post cells slots pc l (.ref (t + j) :: .int x :: .ref (t + i) :: st) (A ++ L) := by
  refine fv_aastore4 hd (by rw [gA hA]; exact hG) (by rw [gA hA]; exact hv) hc hr hin hq ?_
  have e := sA (L := L) hA i (ar4 n (va_up f x.toNatClampNeg (some (t + j))))
  rw [hL'] at e
  exact e.symm ▸ k
theorem fh_iast {n : Nat} {f : Nat → Int32} {x v : Int32} (i : Nat) (hd : decode cc pc = .ok (.iastore, 1)) (hA : A.length = t) (hG : L[i]? = some (.inl (0, n, .inl f))) (hin : vp_in x n) (hL' : L.set i (.inl (0, n, .inl (upd f x.toNatClampNeg v))) = L') (hq : pc + 1 = q) (k : FV cc nL ret own nm d mc ms Post cells slots q l st (A ++ L')) : FV cc nL ret own nm d mc ms Post cells slots pc l (.int v :: .int x :: .ref (t + i) :: st) (A ++ L) := by
  refine fv_iastore hd (by rw [gA hA]; exact hG) hin hq ?_
  rw [sA hA]
  subst hL'
  exact k
theorem fh_callN {y : MethodName} {bc : ByteArray} {mL d1 mc1 ms1 idx : Nat} {o : va_E} {C : List va_E} {L0 : List va_E} (hd : decode cc pc = .ok (.invokespecial idx, 3)) (hw : CN own idx y bc mL) (hs8 : (st.map fun v => v.category).sum ≤ 8) (hA : A.length = t) (hL0 : L0.length = k) (hL : L0 ++ [o] = L) (hc : ∀ A' : List va_E, A'.length = t + k → FC y bc mL none d1 mc1 ms1 [.ref (t + k)] (A' ++ [o]) (fun res G' => res = none ∧ G' = A' ++ C)) (hdd : d1 + 1 ≤ d) (h1 : cells + mc1 ≤ mc) (h2 : slots + ms1 ≤ ms) (hL' : L0 ++ C = L') (hq : pc + 3 = q)
    (kk : FV cc nL ret own nm d mc ms Post (cells + mc1) (slots + ms1) q l st (A ++ L')) : FV cc nL ret own nm d mc ms Post cells slots pc l (.ref (t + k) :: st) (A ++ L) := by
  subst hL
  have h := hc (A ++ L0) (by rw [List.length_append, hA, hL0])
  rw [List.append_assoc] at h
  refine fv_callN hd hw hs8 h hdd h1 h2 hq (fun res G' hp => ?_)
  obtain ⟨rfl, rfl⟩ := hp
  rw [List.append_assoc, hL']
  exact kk
theorem fh_callI {y : MethodName} {bc : ByteArray} {mL d1 mc1 ms1 idx : Nat} {o : va_E} {C : List va_E} {L0 : List va_E} (hd : decode cc pc = .ok (.invokespecial idx, 3)) (hw : CI own idx y bc mL) (hs8 : (st.map fun v => v.category).sum ≤ 8) (hA : A.length = t) (hL0 : L0.length = k) (hL : L0 ++ [o] = L) (hc : ∀ A' : List va_E, A'.length = t + k → FC y bc mL none d1 mc1 ms1 [.ref (t + k)] (A' ++ [o]) (fun res G' => res = none ∧ G' = A' ++ C)) (hdd : d1 + 1 ≤ d) (h1 : cells + mc1 ≤ mc) (h2 : slots + ms1 ≤ ms) (hL' : L0 ++ C = L') (hq : pc + 3 = q)
    (kk : FV cc nL ret own nm d mc ms Post (cells + mc1) (slots + ms1) q l st (A ++ L')) : FV cc nL ret own nm d mc ms Post cells slots pc l (.ref (t + k) :: st) (A ++ L) := by
  subst hL
  have h := hc (A ++ L0) (by rw [List.length_append, hA, hL0])
  rw [List.append_assoc] at h
  refine fv_callI hd hw hs8 h hdd h1 h2 hq (fun res G' hp => ?_)
  obtain ⟨rfl, rfl⟩ := hp
  rw [List.append_assoc, hL']
  exact kk
end
def df0 : List Value := [.null, .null, .null, .int 0]
theorem dfl0 : ∀ j, j < 4 → defaultValue (tyX 0 j) = vp_V df0 j
  | 0, _ => rfl
  | 1, _ => rfl
  | 2, _ => rfl
  | 3, _ => rfl
  | n + 4, h => by omega
def df1 : List Value := [.null, .int 0, .int 0]
theorem dfl1 : ∀ j, j < 3 → defaultValue (tyX 1 j) = vp_V df1 j
  | 0, _ => rfl
  | 1, _ => rfl
  | 2, _ => rfl
  | n + 3, h => by omega
def df2 : List Value := [.null, .int 0, .int 0]
theorem dfl2 : ∀ j, j < 3 → defaultValue (tyX 2 j) = vp_V df2 j
  | 0, _ => rfl
  | 1, _ => rfl
  | 2, _ => rfl
  | n + 3, h => by omega
def df3 : List Value := [.null, .null, .null, .null, .null, .int 0, .int 0]
theorem dfl3 : ∀ j, j < 7 → defaultValue (tyX 3 j) = vp_V df3 j
  | 0, _ => rfl
  | 1, _ => rfl
  | 2, _ => rfl
  | 3, _ => rfl
  | 4, _ => rfl
  | 5, _ => rfl
  | 6, _ => rfl
  | n + 7, h => by omega
def df4 : List Value := [.null, .null, .null, .null, .null]
theorem dfl4 : ∀ j, j < 5 → defaultValue (tyX 4 j) = vp_V df4 j
  | 0, _ => rfl
  | 1, _ => rfl
  | 2, _ => rfl
  | 3, _ => rfl
  | 4, _ => rfl
  | n + 5, h => by omega
def df5 : List Value := [.null, .null, .null, .int 0, .int 0, .int 0, .int 0, .int 0, .int 0]
theorem dfl5 : ∀ j, j < 9 → defaultValue (tyX 5 j) = vp_V df5 j
  | 0, _ => rfl
  | 1, _ => rfl
  | 2, _ => rfl
  | 3, _ => rfl
  | 4, _ => rfl
  | 5, _ => rfl
  | 6, _ => rfl
  | 7, _ => rfl
  | 8, _ => rfl
  | n + 9, h => by omega
def df6 : List Value := [.null, .null, .null, .null, .null, .null, .null, .null, .null, .int 0]
theorem dfl6 : ∀ j, j < 10 → defaultValue (tyX 6 j) = vp_V df6 j
  | 0, _ => rfl
  | 1, _ => rfl
  | 2, _ => rfl
  | 3, _ => rfl
  | 4, _ => rfl
  | 5, _ => rfl
  | 6, _ => rfl
  | 7, _ => rfl
  | 8, _ => rfl
  | 9, _ => rfl
  | n + 10, h => by omega
def df7 : List Value := [.null, .null, .null, .int 0, .null, .null, .int 0, .null, .int 0, .null, .null, .null, .null, .null, .null, .null, .int 0, .int 0, .int 0, .null, .null, .int 0, .null, .null, .null]
theorem dfl7 : ∀ j, j < 25 → defaultValue (tyX 7 j) = vp_V df7 j
  | 0, _ => rfl
  | 1, _ => rfl
  | 2, _ => rfl
  | 3, _ => rfl
  | 4, _ => rfl
  | 5, _ => rfl
  | 6, _ => rfl
  | 7, _ => rfl
  | 8, _ => rfl
  | 9, _ => rfl
  | 10, _ => rfl
  | 11, _ => rfl
  | 12, _ => rfl
  | 13, _ => rfl
  | 14, _ => rfl
  | 15, _ => rfl
  | 16, _ => rfl
  | 17, _ => rfl
  | 18, _ => rfl
  | 19, _ => rfl
  | 20, _ => rfl
  | 21, _ => rfl
  | 22, _ => rfl
  | 23, _ => rfl
  | 24, _ => rfl
  | n + 25, h => by omega
def tabC (t : Nat) : List va_E := [.inr (5, [.ref (t + 1), .ref (t + 2), .ref (t + 3), .int 0, .int 0, .int 99, .int 0, .int 0, .int 0]), ar 40, ar 40, ar 40]
def ordC (o : Nat) : List va_E := .inr (4, [.ref (o + 1), .ref (o + 5), .ref (o + 6), .ref (o + 7), .ref (o + 8)]) :: (tabC (o + 1) ++ [ar 40, ar 40, ar 40, ar 40])
def lenC (b : Nat) : List va_E := .inr (3, [.ref (b + 1), .ref (b + 2), .ref (b + 10), .ref (b + 11), .ref (b + 12), .int 0, .int 0]) :: (ordC (b + 1) ++ [ar 40, ar 40, arJ 40])
def tbs (t : Nat) : Nat → List va_E
  | 0 => []
  | i + 1 => tbs t i ++ tabC (t + (2 + 4 * i))
def hisC (t : Nat) : List va_E := .inr (1, [.ref (t + 1), .int 0, .int 0]) :: ar3 20 (fun j => if j < 20 then some (t + (2 + 4 * j)) else none) :: tbs t 20
def bokC (t : Nat) : List va_E := [.inr (0, [.ref (t + 1), .ref (t + 2), .ref (t + 3), .int 0]), ar 20, ar 20, ar 20]
def imgC (t : Nat) : List va_E := .inr (2, [.ref (t + 1), .int 0, .int 0]) :: tabC (t + 1)
theorem tbs_len (t : Nat) : ∀ i, (tbs t i).length = 4 * i
  | 0 => rfl
  | i + 1 => by rw [tbs, List.length_append, tbs_len t i]; show 4 * i + 4 = _; omega
set_option maxHeartbeats 4000000 in
set_option maxRecDepth 100000 in
theorem i_5 {A : List va_E} {t : Nat} (hA : A.length = t) : FC yX5_init cX5_init 1 none 1 3 120 [.ref t] (A ++ [.inr (5, df5)]) (fun res G' => res = none ∧ G' = A ++ tabC t) := by
  refine FC.of (by decide) rfl (Nat.le_of_ble_eq_true rfl) ?_
  show FV _ _ _ _ _ _ _ _ _ _ _ _ [some (.ref (t + 0))] [] (A ++ _)
  refine fv_aload_n (q := 1) dX5_init_0 rfl rfl ?_
  refine fv_obj (q := 4) dX5_init_1 gX5_3 w_obi w_obc (by decide) (Nat.le_of_ble_eq_true rfl) rfl ?_
  refine fv_aload_n (q := 5) dX5_init_4 rfl rfl ?_
  refine fv_bipush (v := 40) (q := 7) dX5_init_5 (by decide) rfl ?_
  refine fh_newI (L := (.inr (5, df5) :: [])) (k := 1) (L' := (.inr (5, df5) :: ([] ++ [ar 40]))) 40 dX5_init_7 (by decide) (by decide) (by decide) (by decide) (by decide) hA rfl rfl rfl ?_
  refine fh_putr (L := (.inr (5, df5) :: ([] ++ [ar 40]))) (L' := (.inr (5, [.ref (t + 1), .null, .null, .int 0, .int 0, .int 0, .int 0, .int 0, .int 0]) :: ([] ++ [ar 40]))) 0 dX5_init_9 fX5_9 hA rfl rfl rfl rfl (fun _ => rfl) (fun _ => rfl) (Nat.le_of_ble_eq_true rfl) rfl rfl ?_
  refine fv_aload_n (q := 13) dX5_init_12 rfl rfl ?_
  refine fv_bipush (v := 40) (q := 15) dX5_init_13 (by decide) rfl ?_
  refine fh_newI (L := (.inr (5, [.ref (t + 1), .null, .null, .int 0, .int 0, .int 0, .int 0, .int 0, .int 0]) :: ([] ++ [ar 40]))) (k := 2) (L' := (.inr (5, [.ref (t + 1), .null, .null, .int 0, .int 0, .int 0, .int 0, .int 0, .int 0]) :: (([] ++ [ar 40]) ++ [ar 40]))) 40 dX5_init_15 (by decide) (by decide) (by decide) (by decide) (by decide) hA rfl rfl rfl ?_
  refine fh_putr (L := (.inr (5, [.ref (t + 1), .null, .null, .int 0, .int 0, .int 0, .int 0, .int 0, .int 0]) :: (([] ++ [ar 40]) ++ [ar 40]))) (L' := (.inr (5, [.ref (t + 1), .ref (t + 2), .null, .int 0, .int 0, .int 0, .int 0, .int 0, .int 0]) :: (([] ++ [ar 40]) ++ [ar 40]))) 0 dX5_init_17 fX5_15 hA rfl rfl rfl rfl (fun _ => rfl) (fun _ => rfl) (Nat.le_of_ble_eq_true rfl) rfl rfl ?_
  refine fv_aload_n (q := 21) dX5_init_20 rfl rfl ?_
  refine fv_bipush (v := 40) (q := 23) dX5_init_21 (by decide) rfl ?_
  refine fh_newI (L := (.inr (5, [.ref (t + 1), .ref (t + 2), .null, .int 0, .int 0, .int 0, .int 0, .int 0, .int 0]) :: (([] ++ [ar 40]) ++ [ar 40]))) (k := 3) (L' := (.inr (5, [.ref (t + 1), .ref (t + 2), .null, .int 0, .int 0, .int 0, .int 0, .int 0, .int 0]) :: ((([] ++ [ar 40]) ++ [ar 40]) ++ [ar 40]))) 40 dX5_init_23 (by decide) (by decide) (by decide) (by decide) (by decide) hA rfl rfl rfl ?_
  refine fh_putr (L := (.inr (5, [.ref (t + 1), .ref (t + 2), .null, .int 0, .int 0, .int 0, .int 0, .int 0, .int 0]) :: ((([] ++ [ar 40]) ++ [ar 40]) ++ [ar 40]))) (L' := (.inr (5, [.ref (t + 1), .ref (t + 2), .ref (t + 3), .int 0, .int 0, .int 0, .int 0, .int 0, .int 0]) :: ((([] ++ [ar 40]) ++ [ar 40]) ++ [ar 40]))) 0 dX5_init_25 fX5_18 hA rfl rfl rfl rfl (fun _ => rfl) (fun _ => rfl) (Nat.le_of_ble_eq_true rfl) rfl rfl ?_
  refine fv_aload_n (q := 29) dX5_init_28 rfl rfl ?_
  refine fv_iconst (v := 0) (q := 30) dX5_init_29 (by decide) rfl ?_
  refine fh_putf (L := (.inr (5, [.ref (t + 1), .ref (t + 2), .ref (t + 3), .int 0, .int 0, .int 0, .int 0, .int 0, .int 0]) :: ((([] ++ [ar 40]) ++ [ar 40]) ++ [ar 40]))) (L' := (.inr (5, [.ref (t + 1), .ref (t + 2), .ref (t + 3), .int 0, .int 0, .int 0, .int 0, .int 0, .int 0]) :: ((([] ++ [ar 40]) ++ [ar 40]) ++ [ar 40]))) 0 dX5_init_30 fX5_21 hA rfl rfl rfl (by decide) (by decide) (Nat.le_of_ble_eq_true rfl) rfl rfl ?_
  refine fv_aload_n (q := 34) dX5_init_33 rfl rfl ?_
  refine fv_iconst (v := 0) (q := 35) dX5_init_34 (by decide) rfl ?_
  refine fh_putf (L := (.inr (5, [.ref (t + 1), .ref (t + 2), .ref (t + 3), .int 0, .int 0, .int 0, .int 0, .int 0, .int 0]) :: ((([] ++ [ar 40]) ++ [ar 40]) ++ [ar 40]))) (L' := (.inr (5, [.ref (t + 1), .ref (t + 2), .ref (t + 3), .int 0, .int 0, .int 0, .int 0, .int 0, .int 0]) :: ((([] ++ [ar 40]) ++ [ar 40]) ++ [ar 40]))) 0 dX5_init_35 fX5_25 hA rfl rfl rfl (by decide) (by decide) (Nat.le_of_ble_eq_true rfl) rfl rfl ?_
  refine fv_aload_n (q := 39) dX5_init_38 rfl rfl ?_
  refine fv_bipush (v := 99) (q := 41) dX5_init_39 (by decide) rfl ?_
  refine fh_putf (L := (.inr (5, [.ref (t + 1), .ref (t + 2), .ref (t + 3), .int 0, .int 0, .int 0, .int 0, .int 0, .int 0]) :: ((([] ++ [ar 40]) ++ [ar 40]) ++ [ar 40]))) (L' := (.inr (5, [.ref (t + 1), .ref (t + 2), .ref (t + 3), .int 0, .int 0, .int 99, .int 0, .int 0, .int 0]) :: ((([] ++ [ar 40]) ++ [ar 40]) ++ [ar 40]))) 0 dX5_init_41 fX5_28 hA rfl rfl rfl (by decide) (by decide) (Nat.le_of_ble_eq_true rfl) rfl rfl ?_
  refine fv_aload_n (q := 45) dX5_init_44 rfl rfl ?_
  refine fv_iconst (v := 0) (q := 46) dX5_init_45 (by decide) rfl ?_
  refine fh_putf (L := (.inr (5, [.ref (t + 1), .ref (t + 2), .ref (t + 3), .int 0, .int 0, .int 99, .int 0, .int 0, .int 0]) :: ((([] ++ [ar 40]) ++ [ar 40]) ++ [ar 40]))) (L' := (.inr (5, [.ref (t + 1), .ref (t + 2), .ref (t + 3), .int 0, .int 0, .int 99, .int 0, .int 0, .int 0]) :: ((([] ++ [ar 40]) ++ [ar 40]) ++ [ar 40]))) 0 dX5_init_46 fX5_31 hA rfl rfl rfl (by decide) (by decide) (Nat.le_of_ble_eq_true rfl) rfl rfl ?_
  refine fv_aload_n (q := 50) dX5_init_49 rfl rfl ?_
  refine fv_iconst (v := 0) (q := 51) dX5_init_50 (by decide) rfl ?_
  refine fh_putf (L := (.inr (5, [.ref (t + 1), .ref (t + 2), .ref (t + 3), .int 0, .int 0, .int 99, .int 0, .int 0, .int 0]) :: ((([] ++ [ar 40]) ++ [ar 40]) ++ [ar 40]))) (L' := (.inr (5, [.ref (t + 1), .ref (t + 2), .ref (t + 3), .int 0, .int 0, .int 99, .int 0, .int 0, .int 0]) :: ((([] ++ [ar 40]) ++ [ar 40]) ++ [ar 40]))) 0 dX5_init_51 fX5_34 hA rfl rfl rfl (by decide) (by decide) (Nat.le_of_ble_eq_true rfl) rfl rfl ?_
  refine fv_aload_n (q := 55) dX5_init_54 rfl rfl ?_
  refine fv_iconst (v := 0) (q := 56) dX5_init_55 (by decide) rfl ?_
  refine fh_putf (L := (.inr (5, [.ref (t + 1), .ref (t + 2), .ref (t + 3), .int 0, .int 0, .int 99, .int 0, .int 0, .int 0]) :: ((([] ++ [ar 40]) ++ [ar 40]) ++ [ar 40]))) (L' := (.inr (5, [.ref (t + 1), .ref (t + 2), .ref (t + 3), .int 0, .int 0, .int 99, .int 0, .int 0, .int 0]) :: ((([] ++ [ar 40]) ++ [ar 40]) ++ [ar 40]))) 0 dX5_init_56 fX5_37 hA rfl rfl rfl (by decide) (by decide) (Nat.le_of_ble_eq_true rfl) rfl rfl ?_
  refine fv_vret dX5_init_59 rfl rfl (by decide) ?_
  exact ⟨rfl, rfl⟩
set_option maxHeartbeats 4000000 in
set_option maxRecDepth 100000 in
theorem i_4 {A : List va_E} {t : Nat} (hA : A.length = t) : FC yX4_init cX4_init 1 none 2 8 289 [.ref t] (A ++ [.inr (4, df4)]) (fun res G' => res = none ∧ G' = A ++ ordC t) := by
  refine FC.of (by decide) rfl (Nat.le_of_ble_eq_true rfl) ?_
  show FV _ _ _ _ _ _ _ _ _ _ _ _ [some (.ref (t + 0))] [] (A ++ _)
  refine fv_aload_n (q := 1) dX4_init_0 rfl rfl ?_
  refine fv_obj (q := 4) dX4_init_1 gX4_3 w_obi w_obc (by decide) (Nat.le_of_ble_eq_true rfl) rfl ?_
  refine fv_aload_n (q := 5) dX4_init_4 rfl rfl ?_
  refine fh_new (L := (.inr (4, df4) :: [])) (k := 1) (L' := (.inr (4, df4) :: ([] ++ [.inr (5, df5)]))) (ci := 5) dX4_init_5 rfl lX4_9 nX5 sX5 dfl5 (fun _ => rfl) (by decide) (by decide) hA rfl rfl rfl ?_
  refine fv_dup (q := 9) dX4_init_8 rfl rfl ?_
  refine fh_callN (L0 := (.inr (4, df4) :: [])) (o := .inr (5, df5)) (C := tabC (t + 1)) (L := (.inr (4, df4) :: ([] ++ [.inr (5, df5)]))) (k := 1) (L' := (.inr (4, df4) :: ([] ++ tabC (t + 1)))) dX4_init_9 gX4_11 ?_ hA rfl rfl (fun A' h => i_5 h) ?_ ?_ ?_ rfl rfl ?_
  · exact Nat.le_of_ble_eq_true rfl
  · decide
  · decide
  · decide
  refine fh_putr (L := (.inr (4, df4) :: ([] ++ tabC (t + 1)))) (L' := (.inr (4, [.ref (t + 1), .null, .null, .null, .null]) :: ([] ++ tabC (t + 1)))) 0 dX4_init_12 fX4_12 hA rfl rfl rfl rfl (fun _ => rfl) (fun _ => rfl) (Nat.le_of_ble_eq_true rfl) rfl rfl ?_
  refine fv_aload_n (q := 16) dX4_init_15 rfl rfl ?_
  refine fv_bipush (v := 40) (q := 18) dX4_init_16 (by decide) rfl ?_
  refine fh_newI (L := (.inr (4, [.ref (t + 1), .null, .null, .null, .null]) :: ([] ++ tabC (t + 1)))) (k := 5) (L' := (.inr (4, [.ref (t + 1), .null, .null, .null, .null]) :: (([] ++ tabC (t + 1)) ++ [ar 40]))) 40 dX4_init_18 (by decide) (by decide) (by decide) (by decide) (by decide) hA rfl rfl rfl ?_
  refine fh_putr (L := (.inr (4, [.ref (t + 1), .null, .null, .null, .null]) :: (([] ++ tabC (t + 1)) ++ [ar 40]))) (L' := (.inr (4, [.ref (t + 1), .ref (t + 5), .null, .null, .null]) :: (([] ++ tabC (t + 1)) ++ [ar 40]))) 0 dX4_init_20 fX4_18 hA rfl rfl rfl rfl (fun _ => rfl) (fun _ => rfl) (Nat.le_of_ble_eq_true rfl) rfl rfl ?_
  refine fv_aload_n (q := 24) dX4_init_23 rfl rfl ?_
  refine fv_bipush (v := 40) (q := 26) dX4_init_24 (by decide) rfl ?_
  refine fh_newI (L := (.inr (4, [.ref (t + 1), .ref (t + 5), .null, .null, .null]) :: (([] ++ tabC (t + 1)) ++ [ar 40]))) (k := 6) (L' := (.inr (4, [.ref (t + 1), .ref (t + 5), .null, .null, .null]) :: ((([] ++ tabC (t + 1)) ++ [ar 40]) ++ [ar 40]))) 40 dX4_init_26 (by decide) (by decide) (by decide) (by decide) (by decide) hA rfl rfl rfl ?_
  refine fh_putr (L := (.inr (4, [.ref (t + 1), .ref (t + 5), .null, .null, .null]) :: ((([] ++ tabC (t + 1)) ++ [ar 40]) ++ [ar 40]))) (L' := (.inr (4, [.ref (t + 1), .ref (t + 5), .ref (t + 6), .null, .null]) :: ((([] ++ tabC (t + 1)) ++ [ar 40]) ++ [ar 40]))) 0 dX4_init_28 fX4_22 hA rfl rfl rfl rfl (fun _ => rfl) (fun _ => rfl) (Nat.le_of_ble_eq_true rfl) rfl rfl ?_
  refine fv_aload_n (q := 32) dX4_init_31 rfl rfl ?_
  refine fv_bipush (v := 40) (q := 34) dX4_init_32 (by decide) rfl ?_
  refine fh_newI (L := (.inr (4, [.ref (t + 1), .ref (t + 5), .ref (t + 6), .null, .null]) :: ((([] ++ tabC (t + 1)) ++ [ar 40]) ++ [ar 40]))) (k := 7) (L' := (.inr (4, [.ref (t + 1), .ref (t + 5), .ref (t + 6), .null, .null]) :: (((([] ++ tabC (t + 1)) ++ [ar 40]) ++ [ar 40]) ++ [ar 40]))) 40 dX4_init_34 (by decide) (by decide) (by decide) (by decide) (by decide) hA rfl rfl rfl ?_
  refine fh_putr (L := (.inr (4, [.ref (t + 1), .ref (t + 5), .ref (t + 6), .null, .null]) :: (((([] ++ tabC (t + 1)) ++ [ar 40]) ++ [ar 40]) ++ [ar 40]))) (L' := (.inr (4, [.ref (t + 1), .ref (t + 5), .ref (t + 6), .ref (t + 7), .null]) :: (((([] ++ tabC (t + 1)) ++ [ar 40]) ++ [ar 40]) ++ [ar 40]))) 0 dX4_init_36 fX4_25 hA rfl rfl rfl rfl (fun _ => rfl) (fun _ => rfl) (Nat.le_of_ble_eq_true rfl) rfl rfl ?_
  refine fv_aload_n (q := 40) dX4_init_39 rfl rfl ?_
  refine fv_bipush (v := 40) (q := 42) dX4_init_40 (by decide) rfl ?_
  refine fh_newI (L := (.inr (4, [.ref (t + 1), .ref (t + 5), .ref (t + 6), .ref (t + 7), .null]) :: (((([] ++ tabC (t + 1)) ++ [ar 40]) ++ [ar 40]) ++ [ar 40]))) (k := 8) (L' := (.inr (4, [.ref (t + 1), .ref (t + 5), .ref (t + 6), .ref (t + 7), .null]) :: ((((([] ++ tabC (t + 1)) ++ [ar 40]) ++ [ar 40]) ++ [ar 40]) ++ [ar 40]))) 40 dX4_init_42 (by decide) (by decide) (by decide) (by decide) (by decide) hA rfl rfl rfl ?_
  refine fh_putr (L := (.inr (4, [.ref (t + 1), .ref (t + 5), .ref (t + 6), .ref (t + 7), .null]) :: ((((([] ++ tabC (t + 1)) ++ [ar 40]) ++ [ar 40]) ++ [ar 40]) ++ [ar 40]))) (L' := (.inr (4, [.ref (t + 1), .ref (t + 5), .ref (t + 6), .ref (t + 7), .ref (t + 8)]) :: ((((([] ++ tabC (t + 1)) ++ [ar 40]) ++ [ar 40]) ++ [ar 40]) ++ [ar 40]))) 0 dX4_init_44 fX4_28 hA rfl rfl rfl rfl (fun _ => rfl) (fun _ => rfl) (Nat.le_of_ble_eq_true rfl) rfl rfl ?_
  refine fv_vret dX4_init_47 rfl rfl (by decide) ?_
  exact ⟨rfl, rfl⟩
set_option maxHeartbeats 4000000 in
set_option maxRecDepth 100000 in
theorem i_3 {A : List va_E} {t : Nat} (hA : A.length = t) : FC yX3_init cX3_init 1 none 3 12 414 [.ref t] (A ++ [.inr (3, df3)]) (fun res G' => res = none ∧ G' = A ++ lenC t) := by
  refine FC.of (by decide) rfl (Nat.le_of_ble_eq_true rfl) ?_
  show FV _ _ _ _ _ _ _ _ _ _ _ _ [some (.ref (t + 0))] [] (A ++ _)
  refine fv_aload_n (q := 1) dX3_init_0 rfl rfl ?_
  refine fv_obj (q := 4) dX3_init_1 gX3_3 w_obi w_obc (by decide) (Nat.le_of_ble_eq_true rfl) rfl ?_
  refine fv_aload_n (q := 5) dX3_init_4 rfl rfl ?_
  refine fh_new (L := (.inr (3, df3) :: [])) (k := 1) (L' := (.inr (3, df3) :: ([] ++ [.inr (4, df4)]))) (ci := 4) dX3_init_5 rfl lX3_9 nX4 sX4 dfl4 (fun _ => rfl) (by decide) (by decide) hA rfl rfl rfl ?_
  refine fv_dup (q := 9) dX3_init_8 rfl rfl ?_
  refine fh_callN (L0 := (.inr (3, df3) :: [])) (o := .inr (4, df4)) (C := ordC (t + 1)) (L := (.inr (3, df3) :: ([] ++ [.inr (4, df4)]))) (k := 1) (L' := (.inr (3, df3) :: ([] ++ ordC (t + 1)))) dX3_init_9 gX3_11 ?_ hA rfl rfl (fun A' h => i_4 h) ?_ ?_ ?_ rfl rfl ?_
  · exact Nat.le_of_ble_eq_true rfl
  · decide
  · decide
  · decide
  refine fh_putr (L := (.inr (3, df3) :: ([] ++ ordC (t + 1)))) (L' := (.inr (3, [.ref (t + 1), .null, .null, .null, .null, .int 0, .int 0]) :: ([] ++ ordC (t + 1)))) 0 dX3_init_12 fX3_12 hA rfl rfl rfl rfl (fun _ => rfl) (fun _ => rfl) (Nat.le_of_ble_eq_true rfl) rfl rfl ?_
  refine fv_aload_n (q := 16) dX3_init_15 rfl rfl ?_
  refine fv_aload_n (q := 17) dX3_init_16 rfl rfl ?_
  refine fh_getf (L := (.inr (3, [.ref (t + 1), .null, .null, .null, .null, .int 0, .int 0]) :: ([] ++ ordC (t + 1)))) 0 dX3_init_17 fX3_12 hA rfl rfl rfl ?_
  refine fh_getf (L := (.inr (3, [.ref (t + 1), .null, .null, .null, .null, .int 0, .int 0]) :: ([] ++ ordC (t + 1)))) 1 dX3_init_20 fX3_18 hA rfl rfl rfl ?_
  refine fh_putr (L := (.inr (3, [.ref (t + 1), .null, .null, .null, .null, .int 0, .int 0]) :: ([] ++ ordC (t + 1)))) (L' := (.inr (3, [.ref (t + 1), .ref (t + 2), .null, .null, .null, .int 0, .int 0]) :: ([] ++ ordC (t + 1)))) 0 dX3_init_23 fX3_22 hA rfl rfl rfl rfl (fun _ => rfl) (fun _ => rfl) (Nat.le_of_ble_eq_true rfl) rfl rfl ?_
  refine fv_aload_n (q := 27) dX3_init_26 rfl rfl ?_
  refine fv_bipush (v := 40) (q := 29) dX3_init_27 (by decide) rfl ?_
  refine fh_newI (L := (.inr (3, [.ref (t + 1), .ref (t + 2), .null, .null, .null, .int 0, .int 0]) :: ([] ++ ordC (t + 1)))) (k := 10) (L' := (.inr (3, [.ref (t + 1), .ref (t + 2), .null, .null, .null, .int 0, .int 0]) :: (([] ++ ordC (t + 1)) ++ [ar 40]))) 40 dX3_init_29 (by decide) (by decide) (by decide) (by decide) (by decide) hA rfl rfl rfl ?_
  refine fh_putr (L := (.inr (3, [.ref (t + 1), .ref (t + 2), .null, .null, .null, .int 0, .int 0]) :: (([] ++ ordC (t + 1)) ++ [ar 40]))) (L' := (.inr (3, [.ref (t + 1), .ref (t + 2), .ref (t + 10), .null, .null, .int 0, .int 0]) :: (([] ++ ordC (t + 1)) ++ [ar 40]))) 0 dX3_init_31 fX3_23 hA rfl rfl rfl rfl (fun _ => rfl) (fun _ => rfl) (Nat.le_of_ble_eq_true rfl) rfl rfl ?_
  refine fv_aload_n (q := 35) dX3_init_34 rfl rfl ?_
  refine fv_bipush (v := 40) (q := 37) dX3_init_35 (by decide) rfl ?_
  refine fh_newI (L := (.inr (3, [.ref (t + 1), .ref (t + 2), .ref (t + 10), .null, .null, .int 0, .int 0]) :: (([] ++ ordC (t + 1)) ++ [ar 40]))) (k := 11) (L' := (.inr (3, [.ref (t + 1), .ref (t + 2), .ref (t + 10), .null, .null, .int 0, .int 0]) :: ((([] ++ ordC (t + 1)) ++ [ar 40]) ++ [ar 40]))) 40 dX3_init_37 (by decide) (by decide) (by decide) (by decide) (by decide) hA rfl rfl rfl ?_
  refine fh_putr (L := (.inr (3, [.ref (t + 1), .ref (t + 2), .ref (t + 10), .null, .null, .int 0, .int 0]) :: ((([] ++ ordC (t + 1)) ++ [ar 40]) ++ [ar 40]))) (L' := (.inr (3, [.ref (t + 1), .ref (t + 2), .ref (t + 10), .ref (t + 11), .null, .int 0, .int 0]) :: ((([] ++ ordC (t + 1)) ++ [ar 40]) ++ [ar 40]))) 0 dX3_init_39 fX3_27 hA rfl rfl rfl rfl (fun _ => rfl) (fun _ => rfl) (Nat.le_of_ble_eq_true rfl) rfl rfl ?_
  refine fv_aload_n (q := 43) dX3_init_42 rfl rfl ?_
  refine fv_bipush (v := 40) (q := 45) dX3_init_43 (by decide) rfl ?_
  refine fh_newJ (L := (.inr (3, [.ref (t + 1), .ref (t + 2), .ref (t + 10), .ref (t + 11), .null, .int 0, .int 0]) :: ((([] ++ ordC (t + 1)) ++ [ar 40]) ++ [ar 40]))) (k := 12) (L' := (.inr (3, [.ref (t + 1), .ref (t + 2), .ref (t + 10), .ref (t + 11), .null, .int 0, .int 0]) :: (((([] ++ ordC (t + 1)) ++ [ar 40]) ++ [ar 40]) ++ [arJ 40]))) 40 dX3_init_45 (by decide) (by decide) (by decide) (by decide) (by decide) hA rfl rfl rfl ?_
  refine fh_putr (L := (.inr (3, [.ref (t + 1), .ref (t + 2), .ref (t + 10), .ref (t + 11), .null, .int 0, .int 0]) :: (((([] ++ ordC (t + 1)) ++ [ar 40]) ++ [ar 40]) ++ [arJ 40]))) (L' := (.inr (3, [.ref (t + 1), .ref (t + 2), .ref (t + 10), .ref (t + 11), .ref (t + 12), .int 0, .int 0]) :: (((([] ++ ordC (t + 1)) ++ [ar 40]) ++ [ar 40]) ++ [arJ 40]))) 0 dX3_init_47 fX3_30 hA rfl rfl rfl rfl (fun _ => rfl) (fun _ => rfl) (Nat.le_of_ble_eq_true rfl) rfl rfl ?_
  refine fv_aload_n (q := 51) dX3_init_50 rfl rfl ?_
  refine fv_iconst (v := 0) (q := 52) dX3_init_51 (by decide) rfl ?_
  refine fh_putf (L := (.inr (3, [.ref (t + 1), .ref (t + 2), .ref (t + 10), .ref (t + 11), .ref (t + 12), .int 0, .int 0]) :: (((([] ++ ordC (t + 1)) ++ [ar 40]) ++ [ar 40]) ++ [arJ 40]))) (L' := (.inr (3, [.ref (t + 1), .ref (t + 2), .ref (t + 10), .ref (t + 11), .ref (t + 12), .int 0, .int 0]) :: (((([] ++ ordC (t + 1)) ++ [ar 40]) ++ [ar 40]) ++ [arJ 40]))) 0 dX3_init_52 fX3_34 hA rfl rfl rfl (by decide) (by decide) (Nat.le_of_ble_eq_true rfl) rfl rfl ?_
  refine fv_aload_n (q := 56) dX3_init_55 rfl rfl ?_
  refine fv_iconst (v := 0) (q := 57) dX3_init_56 (by decide) rfl ?_
  refine fh_putf (L := (.inr (3, [.ref (t + 1), .ref (t + 2), .ref (t + 10), .ref (t + 11), .ref (t + 12), .int 0, .int 0]) :: (((([] ++ ordC (t + 1)) ++ [ar 40]) ++ [ar 40]) ++ [arJ 40]))) (L' := (.inr (3, [.ref (t + 1), .ref (t + 2), .ref (t + 10), .ref (t + 11), .ref (t + 12), .int 0, .int 0]) :: (((([] ++ ordC (t + 1)) ++ [ar 40]) ++ [ar 40]) ++ [arJ 40]))) 0 dX3_init_57 fX3_38 hA rfl rfl rfl (by decide) (by decide) (Nat.le_of_ble_eq_true rfl) rfl rfl ?_
  refine fv_vret dX3_init_60 rfl rfl (by decide) ?_
  exact ⟨rfl, rfl⟩
set_option maxHeartbeats 4000000 in
set_option maxRecDepth 100000 in
theorem i_0 {A : List va_E} {t : Nat} (hA : A.length = t) : FC yX0_init cX0_init 1 none 1 3 60 [.ref t] (A ++ [.inr (0, df0)]) (fun res G' => res = none ∧ G' = A ++ bokC t) := by
  refine FC.of (by decide) rfl (Nat.le_of_ble_eq_true rfl) ?_
  show FV _ _ _ _ _ _ _ _ _ _ _ _ [some (.ref (t + 0))] [] (A ++ _)
  refine fv_aload_n (q := 1) dX0_init_0 rfl rfl ?_
  refine fv_obj (q := 4) dX0_init_1 gX0_3 w_obi w_obc (by decide) (Nat.le_of_ble_eq_true rfl) rfl ?_
  refine fv_aload_n (q := 5) dX0_init_4 rfl rfl ?_
  refine fv_bipush (v := 20) (q := 7) dX0_init_5 (by decide) rfl ?_
  refine fh_newI (L := (.inr (0, df0) :: [])) (k := 1) (L' := (.inr (0, df0) :: ([] ++ [ar 20]))) 20 dX0_init_7 (by decide) (by decide) (by decide) (by decide) (by decide) hA rfl rfl rfl ?_
  refine fh_putr (L := (.inr (0, df0) :: ([] ++ [ar 20]))) (L' := (.inr (0, [.ref (t + 1), .null, .null, .int 0]) :: ([] ++ [ar 20]))) 0 dX0_init_9 fX0_9 hA rfl rfl rfl rfl (fun _ => rfl) (fun _ => rfl) (Nat.le_of_ble_eq_true rfl) rfl rfl ?_
  refine fv_aload_n (q := 13) dX0_init_12 rfl rfl ?_
  refine fv_bipush (v := 20) (q := 15) dX0_init_13 (by decide) rfl ?_
  refine fh_newI (L := (.inr (0, [.ref (t + 1), .null, .null, .int 0]) :: ([] ++ [ar 20]))) (k := 2) (L' := (.inr (0, [.ref (t + 1), .null, .null, .int 0]) :: (([] ++ [ar 20]) ++ [ar 20]))) 20 dX0_init_15 (by decide) (by decide) (by decide) (by decide) (by decide) hA rfl rfl rfl ?_
  refine fh_putr (L := (.inr (0, [.ref (t + 1), .null, .null, .int 0]) :: (([] ++ [ar 20]) ++ [ar 20]))) (L' := (.inr (0, [.ref (t + 1), .ref (t + 2), .null, .int 0]) :: (([] ++ [ar 20]) ++ [ar 20]))) 0 dX0_init_17 fX0_15 hA rfl rfl rfl rfl (fun _ => rfl) (fun _ => rfl) (Nat.le_of_ble_eq_true rfl) rfl rfl ?_
  refine fv_aload_n (q := 21) dX0_init_20 rfl rfl ?_
  refine fv_bipush (v := 20) (q := 23) dX0_init_21 (by decide) rfl ?_
  refine fh_newI (L := (.inr (0, [.ref (t + 1), .ref (t + 2), .null, .int 0]) :: (([] ++ [ar 20]) ++ [ar 20]))) (k := 3) (L' := (.inr (0, [.ref (t + 1), .ref (t + 2), .null, .int 0]) :: ((([] ++ [ar 20]) ++ [ar 20]) ++ [ar 20]))) 20 dX0_init_23 (by decide) (by decide) (by decide) (by decide) (by decide) hA rfl rfl rfl ?_
  refine fh_putr (L := (.inr (0, [.ref (t + 1), .ref (t + 2), .null, .int 0]) :: ((([] ++ [ar 20]) ++ [ar 20]) ++ [ar 20]))) (L' := (.inr (0, [.ref (t + 1), .ref (t + 2), .ref (t + 3), .int 0]) :: ((([] ++ [ar 20]) ++ [ar 20]) ++ [ar 20]))) 0 dX0_init_25 fX0_18 hA rfl rfl rfl rfl (fun _ => rfl) (fun _ => rfl) (Nat.le_of_ble_eq_true rfl) rfl rfl ?_
  refine fv_aload_n (q := 29) dX0_init_28 rfl rfl ?_
  refine fv_iconst (v := 0) (q := 30) dX0_init_29 (by decide) rfl ?_
  refine fh_putf (L := (.inr (0, [.ref (t + 1), .ref (t + 2), .ref (t + 3), .int 0]) :: ((([] ++ [ar 20]) ++ [ar 20]) ++ [ar 20]))) (L' := (.inr (0, [.ref (t + 1), .ref (t + 2), .ref (t + 3), .int 0]) :: ((([] ++ [ar 20]) ++ [ar 20]) ++ [ar 20]))) 0 dX0_init_30 fX0_21 hA rfl rfl rfl (by decide) (by decide) (Nat.le_of_ble_eq_true rfl) rfl rfl ?_
  refine fv_vret dX0_init_33 rfl rfl (by decide) ?_
  exact ⟨rfl, rfl⟩
set_option maxHeartbeats 4000000 in
set_option maxRecDepth 100000 in
theorem i_2 {A : List va_E} {t : Nat} (hA : A.length = t) : FC yX2_init cX2_init 1 none 2 4 129 [.ref t] (A ++ [.inr (2, df2)]) (fun res G' => res = none ∧ G' = A ++ imgC t) := by
  refine FC.of (by decide) rfl (Nat.le_of_ble_eq_true rfl) ?_
  show FV _ _ _ _ _ _ _ _ _ _ _ _ [some (.ref (t + 0))] [] (A ++ _)
  refine fv_aload_n (q := 1) dX2_init_0 rfl rfl ?_
  refine fv_obj (q := 4) dX2_init_1 gX2_1 w_obi w_obc (by decide) (Nat.le_of_ble_eq_true rfl) rfl ?_
  refine fv_aload_n (q := 5) dX2_init_4 rfl rfl ?_
  refine fh_new (L := (.inr (2, df2) :: [])) (k := 1) (L' := (.inr (2, df2) :: ([] ++ [.inr (5, df5)]))) (ci := 5) dX2_init_5 rfl lX2_7 nX5 sX5 dfl5 (fun _ => rfl) (by decide) (by decide) hA rfl rfl rfl ?_
  refine fv_dup (q := 9) dX2_init_8 rfl rfl ?_
  refine fh_callN (L0 := (.inr (2, df2) :: [])) (o := .inr (5, df5)) (C := tabC (t + 1)) (L := (.inr (2, df2) :: ([] ++ [.inr (5, df5)]))) (k := 1) (L' := (.inr (2, df2) :: ([] ++ tabC (t + 1)))) dX2_init_9 gX2_9 ?_ hA rfl rfl (fun A' h => i_5 h) ?_ ?_ ?_ rfl rfl ?_
  · exact Nat.le_of_ble_eq_true rfl
  · decide
  · decide
  · decide
  refine fh_putr (L := (.inr (2, df2) :: ([] ++ tabC (t + 1)))) (L' := (.inr (2, [.ref (t + 1), .int 0, .int 0]) :: ([] ++ tabC (t + 1)))) 0 dX2_init_12 fX2_10 hA rfl rfl rfl rfl (fun _ => rfl) (fun _ => rfl) (Nat.le_of_ble_eq_true rfl) rfl rfl ?_
  refine fv_aload_n (q := 16) dX2_init_15 rfl rfl ?_
  refine fv_iconst (v := 0) (q := 17) dX2_init_16 (by decide) rfl ?_
  refine fh_putf (L := (.inr (2, [.ref (t + 1), .int 0, .int 0]) :: ([] ++ tabC (t + 1)))) (L' := (.inr (2, [.ref (t + 1), .int 0, .int 0]) :: ([] ++ tabC (t + 1)))) 0 dX2_init_17 fX2_16 hA rfl rfl rfl (by decide) (by decide) (Nat.le_of_ble_eq_true rfl) rfl rfl ?_
  refine fv_aload_n (q := 21) dX2_init_20 rfl rfl ?_
  refine fv_iconst (v := 0) (q := 22) dX2_init_21 (by decide) rfl ?_
  refine fh_putf (L := (.inr (2, [.ref (t + 1), .int 0, .int 0]) :: ([] ++ tabC (t + 1)))) (L' := (.inr (2, [.ref (t + 1), .int 0, .int 0]) :: ([] ++ tabC (t + 1)))) 0 dX2_init_22 fX2_20 hA rfl rfl rfl (by decide) (by decide) (Nat.le_of_ble_eq_true rfl) rfl rfl ?_
  refine fv_vret dX2_init_25 rfl rfl (by decide) ?_
  exact ⟨rfl, rfl⟩
