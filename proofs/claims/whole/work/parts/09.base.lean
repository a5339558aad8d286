/-! small rows -/
def bi (b : Bool) : Int32 := if b then 1 else 0
theorem bi_z (b : Bool) : bi b = 0 ∨ bi b = 1 := by cases b <;> simp [bi]
theorem bi_0 {b : Bool} : bi b = 0 ↔ b = false := by cases b <;> simp [bi]
theorem bi_n {b : Bool} : bi b ≠ 0 ↔ b = true := by cases b <;> simp [bi]
theorem bi_n' {b : Bool} : ¬ bi b = 0 ↔ b = true := by cases b <;> simp [bi]
theorem bi_nar (b : Bool) : narrow .boolean (.int (bi b)) = .int (bi b) := (nar_z (bi_z b)).1
theorem fv_top {cc : ByteArray} {nL : Nat} {ret : Option FieldType} {own nm : String} {d mc ms : Nat} {Post : Option Value → List va_E → Prop} {cells slots pc : Nat} {l : List (Option Value)} {st : List Value} {G : List va_E} {x y : Int32} (h : x = y) (k : FV cc nL ret own nm d mc ms Post cells slots pc l (.int y :: st) G) : FV cc nL ret own nm d mc ms Post cells slots pc l (.int x :: st) G := by rw [h]; exact k
theorem fv_topl {cc : ByteArray} {nL : Nat} {ret : Option FieldType} {own nm : String} {d mc ms : Nat} {Post : Option Value → List va_E → Prop} {cells slots pc : Nat} {l : List (Option Value)} {st : List Value} {G : List va_E} {x y : Int64} (h : x = y) (k : FV cc nL ret own nm d mc ms Post cells slots pc l (.long y :: st) G) : FV cc nL ret own nm d mc ms Post cells slots pc l (.long x :: st) G := by rw [h]; exact k
theorem fi_ret {x v : Int32} {G : List va_E} (h : x = v) : (some (Value.int x) = some (Value.int v)) ∧ G = G := ⟨by rw [h], rfl⟩
theorem fd_ret {D : Nat → Nat → Int32} {J : Nat → Nat → Int64} {P : (Nat → Nat → Int32) → (Nat → Nat → Int64) → Prop} (h : P D J) : ∃ D' J', lay D J = lay D' J' ∧ P D' J' := ⟨D, J, rfl, h⟩
/-- which cells are tables, orders, lenses -/
def TabIx (t : Nat) : Prop := t = 3 ∨ t = 16 ∨ (∃ k, k < 20 ∧ t = 29 + 4 * k) ∨ t = 115 ∨ t = 120
theorem tab_a0 : ∀ k, k < 20 → shL[29 + 4 * k]? = some (.inr (5, [some (29 + 4 * k + 1), some (29 + 4 * k + 2), some (29 + 4 * k + 3), none, none, none, none, none, none]))
  | 0, _ => by decide +kernel
  | 1, _ => by decide +kernel
  | 2, _ => by decide +kernel
  | 3, _ => by decide +kernel
  | 4, _ => by decide +kernel
  | 5, _ => by decide +kernel
  | 6, _ => by decide +kernel
  | 7, _ => by decide +kernel
  | 8, _ => by decide +kernel
  | 9, _ => by decide +kernel
  | 10, _ => by decide +kernel
  | 11, _ => by decide +kernel
  | 12, _ => by decide +kernel
  | 13, _ => by decide +kernel
  | 14, _ => by decide +kernel
  | 15, _ => by decide +kernel
  | 16, _ => by decide +kernel
  | 17, _ => by decide +kernel
  | 18, _ => by decide +kernel
  | 19, _ => by decide +kernel
  | n + 20, h => absurd h (by omega)
theorem tab_a1 : ∀ k, k < 20 → shL[29 + 4 * k + 1]? = some (.inl (0, 40))
  | 0, _ => by decide +kernel
  | 1, _ => by decide +kernel
  | 2, _ => by decide +kernel
  | 3, _ => by decide +kernel
  | 4, _ => by decide +kernel
  | 5, _ => by decide +kernel
  | 6, _ => by decide +kernel
  | 7, _ => by decide +kernel
  | 8, _ => by decide +kernel
  | 9, _ => by decide +kernel
  | 10, _ => by decide +kernel
  | 11, _ => by decide +kernel
  | 12, _ => by decide +kernel
  | 13, _ => by decide +kernel
  | 14, _ => by decide +kernel
  | 15, _ => by decide +kernel
  | 16, _ => by decide +kernel
  | 17, _ => by decide +kernel
  | 18, _ => by decide +kernel
  | 19, _ => by decide +kernel
  | n + 20, h => absurd h (by omega)
theorem tab_a2 : ∀ k, k < 20 → shL[29 + 4 * k + 2]? = some (.inl (0, 40))
  | 0, _ => by decide +kernel
  | 1, _ => by decide +kernel
  | 2, _ => by decide +kernel
  | 3, _ => by decide +kernel
  | 4, _ => by decide +kernel
  | 5, _ => by decide +kernel
  | 6, _ => by decide +kernel
  | 7, _ => by decide +kernel
  | 8, _ => by decide +kernel
  | 9, _ => by decide +kernel
  | 10, _ => by decide +kernel
  | 11, _ => by decide +kernel
  | 12, _ => by decide +kernel
  | 13, _ => by decide +kernel
  | 14, _ => by decide +kernel
  | 15, _ => by decide +kernel
  | 16, _ => by decide +kernel
  | 17, _ => by decide +kernel
  | 18, _ => by decide +kernel
  | 19, _ => by decide +kernel
  | n + 20, h => absurd h (by omega)
theorem tab_a3 : ∀ k, k < 20 → shL[29 + 4 * k + 3]? = some (.inl (0, 40))
  | 0, _ => by decide +kernel
  | 1, _ => by decide +kernel
  | 2, _ => by decide +kernel
  | 3, _ => by decide +kernel
  | 4, _ => by decide +kernel
  | 5, _ => by decide +kernel
  | 6, _ => by decide +kernel
  | 7, _ => by decide +kernel
  | 8, _ => by decide +kernel
  | 9, _ => by decide +kernel
  | 10, _ => by decide +kernel
  | 11, _ => by decide +kernel
  | 12, _ => by decide +kernel
  | 13, _ => by decide +kernel
  | 14, _ => by decide +kernel
  | 15, _ => by decide +kernel
  | 16, _ => by decide +kernel
  | 17, _ => by decide +kernel
  | 18, _ => by decide +kernel
  | 19, _ => by decide +kernel
  | n + 20, h => absurd h (by omega)
theorem TabIx.sh {t : Nat} (h : TabIx t) : shL[t]? = some (.inr (5, [some (t + 1), some (t + 2), some (t + 3), none, none, none, none, none, none])) ∧ shL[t + 1]? = some (.inl (0, 40)) ∧ shL[t + 2]? = some (.inl (0, 40)) ∧ shL[t + 3]? = some (.inl (0, 40)) := by
  rcases h with rfl | rfl | ⟨k, hk, rfl⟩ | rfl | rfl
  · exact ⟨by decide +kernel, by decide +kernel, by decide +kernel, by decide +kernel⟩
  · exact ⟨by decide +kernel, by decide +kernel, by decide +kernel, by decide +kernel⟩
  · exact ⟨tab_a0 k hk, tab_a1 k hk, tab_a2 k hk, tab_a3 k hk⟩
  · exact ⟨by decide +kernel, by decide +kernel, by decide +kernel, by decide +kernel⟩
  · exact ⟨by decide +kernel, by decide +kernel, by decide +kernel, by decide +kernel⟩
def LenIx (b : Nat) : Prop := b = 1 ∨ b = 14
theorem LenIx.tab {b : Nat} (h : LenIx b) : TabIx (b + 2) := by
  rcases h with rfl | rfl
  · exact Or.inl rfl
  · exact Or.inr (Or.inl rfl)
theorem LenIx.ord {b : Nat} (h : LenIx b) : shL[b + 1]? = some (.inr (4, [some (b + 2), some (b + 6), some (b + 7), some (b + 8), some (b + 9)])) := by
  rcases h with rfl | rfl <;> decide +kernel
theorem LenIx.len {b : Nat} (h : LenIx b) : shL[b]? = some (.inr (3, [some (b + 1), some (b + 2), some (b + 10), some (b + 11), some (b + 12), none, none])) := by
  rcases h with rfl | rfl <;> decide +kernel
theorem LenIx.arr {b : Nat} (h : LenIx b) : shL[b + 6]? = some (.inl (0, 40)) ∧ shL[b + 7]? = some (.inl (0, 40)) ∧ shL[b + 8]? = some (.inl (0, 40)) ∧ shL[b + 9]? = some (.inl (0, 40)) ∧ shL[b + 10]? = some (.inl (0, 40)) ∧ shL[b + 11]? = some (.inl (0, 40)) ∧ shL[b + 12]? = some (.inl (1, 40)) := by
  rcases h with rfl | rfl <;> exact ⟨by decide +kernel, by decide +kernel, by decide +kernel, by decide +kernel, by decide +kernel, by decide +kernel, by decide +kernel⟩
theorem FD.of {y : MethodName} {cc : ByteArray} {nL : Nat} {ret : Option FieldType} {d : Nat} {av : List Value} {D : Nat → Nat → Int32} {J : Nat → Nat → Int64} {P : Option Value → (Nat → Nat → Int32) → (Nat → Nat → Int64) → Prop} (hy : plainName y.cls = true) (hc : av.all (fun v => v.category == 1) = true) (hn : av.length ≤ nL)
    (h : ∀ Post : Option Value → List va_E → Prop, (∀ res D' J', P res D' J' → Post res (lay D' J')) → FV cc nL ret y.cls y.name d 0 0 Post 0 0 0 (en0 av nL) [] (lay D J)) : FD y cc nL ret d av D J P :=
  FC.of hy hc hn (h _ (fun _ D' J' hp => ⟨D', J', rfl, hp⟩))
theorem FI.of {y : MethodName} {cc : ByteArray} {nL : Nat} {ret : Option FieldType} {d : Nat} {av : List Value} {D : Nat → Nat → Int32} {J : Nat → Nat → Int64} {v : Int32} (hy : plainName y.cls = true) (hc : av.all (fun v => v.category == 1) = true) (hn : av.length ≤ nL)
    (h : ∀ Post : Option Value → List va_E → Prop, Post (some (.int v)) (lay D J) → FV cc nL ret y.cls y.name d 0 0 Post 0 0 0 (en0 av nL) [] (lay D J)) : FI y cc nL ret d av D J v :=
  FC.of hy hc hn (h _ ⟨rfl, rfl⟩)
theorem fi_r {Post : Option Value → List va_E → Prop} {x v : Int32} {G : List va_E} (hp : Post (some (.int v)) G) (h : x = v) : Post (some (.int x)) G := by rw [h]; exact hp
theorem up_ind {n : Nat} {S : Nat → Prop} (h : ∀ i, i ≤ n → (i < n → S (i + 1)) → S i) : ∀ i, i ≤ n → S i := by
  have key : ∀ m i, i ≤ n → n - i = m → S i := by
    intro m
    induction m with
    | zero => intro i hi e; exact h i hi (fun q => by omega)
    | succ m ih => intro i hi e; exact h i hi (fun q => ih (i + 1) (by omega) (by omega))
  exact fun i hi => key _ i hi rfl
theorem dn_ind {S : Nat → Prop} (h : ∀ i, (0 < i → S (i - 1)) → S i) : ∀ i, S i
  | 0 => h 0 (fun q => absurd q (Nat.lt_irrefl 0))
  | i + 1 => h (i + 1) (fun _ => dn_ind h i)
