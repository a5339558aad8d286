section
variable {p : Program} {la : Launch} {e : Env} {R : Room} {s : State} {m : MethodId} {args : Array Value} {below : List Frame} {meth : Method} {c : Code} {H : Heap} {locs : List Loc} {cells slots : Nat} {Q : State → Prop}
theorem w_after {D : va_G} {b0 : Nat} {kk : Nat → ClassId} {mc1 ms1 pc : Nat} {P : Option Value → List va_E → Prop} {G : List va_E} {ls : Array Slot} {st0 rest : List Value} {a : Array Value}
    (hr : va_Run p la e R s m args below meth c H locs cells slots mc1 ms1 (F0 m pc ls st0) rest (Qm D b0 kk mc1 P a) (fun q => b0 ≤ q)) (w : Wd D b0 kk s G H locs cells)
    (k : ∀ (res : Option Value) (G' : List va_E) (H1 : Heap) (locs1 : List Loc), P res G' → Wd D b0 kk s G' H1 locs1 (cells + mc1) → W p la e R s m args below meth c H1 locs1 (cells + mc1) (slots + ms1) Q (F0 m (pc + 3) ls ((res.map (rv b0)).toList ++ rest))) :
    W p la e R s m args below meth c H locs cells slots Q (F0 m pc ls st0) := by
  intro T hT X
  obtain ⟨v, st₀, t, T', L, h0, X', hL, e1, e2, ⟨⟨res, G', hv, hp, hP', hz', hn'⟩, hF⟩, stp⟩ := hr T hT X
  obtain rfl : v = res.map (rv b0) := by cases hv; rfl
  subst hT
  have hzT := w.size X
  have hS := w.2.2.2.1
  have hsz : st₀.heap.size = b0 + G.length := by rw [h0]; exact hzT
  have hF1 : st₀.heap.size ≤ t.heap.size := hF.1
  have hF2 := hF.2
  rw [h0] at hF2
  have w' : Wd D b0 kk s G' T'.heap (locs ++ L) (cells + mc1) := by
    refine ⟨w.1, by rw [e1]; exact hP', by have := w.2.2.1; omega, ⟨by rw [e1]; have := hS.1; omega, fun q g1 g2 => ?_, fun q hq => ?_⟩, w.2.2.2.2⟩
    · rw [e1, hF2 q (Nat.lt_of_lt_of_le g1 hS.1) g2]
      exact hS.2.1 q g1 g2
    · rcases List.mem_append.mp hq with h | h
      · exact hS.2.2 q h
      · exact hL q h
  obtain ⟨t2, a1, b1⟩ := k res G' T'.heap (locs ++ L) hp w' T' rfl X'
  exact ⟨t2, stp t2 a1, b1⟩
end
theorem FP_blind {av : List Value} {G : List va_E} {D : va_G} {b0 : Nat} {kk : Nat → ClassId} : FrameBlind (va_Pc (av.map (rv b0)) (FP G D b0 kk)) := by
  intro a U g mk h
  obtain ⟨h0, h1, h2, h3, h4⟩ := h
  exact ⟨h0, va_K.moved (u := U) (U := U.calling g mk a) (Vm.Alike.refl U.vm) h1, h2, h3, Nz.same (s := U) (U := U.calling g mk a) rfl h4⟩
theorem cat_map (b0 : Nat) (st : List Value) : ((st.map (rv b0)).map fun v => v.category) = st.map fun v => v.category := by
  rw [List.map_map]
  exact List.map_congr_left (fun v _ => rv_cat b0 v)
theorem res_map (b0 : Nat) (res : Option Value) (st : List Value) : (res.map (rv b0)).toList ++ st.map (rv b0) = (res.toList ++ st).map (rv b0) := by
  cases res <;> rfl
section
variable {cc : ByteArray} {nL : Nat} {ret : Option FieldType} {own nm : String} {d mc ms : Nat} {Post : Option Value → List va_E → Prop} {cells slots pc q : Nat} {l l' : List (Option Value)} {st st0 : List Value} {G : List va_E}
theorem CB.use {y : MethodName} {bc : ByteArray} {mL : Nat} {rt : Option FieldType} {n d1 mc1 ms1 idx : Nat} {s : State} {args : Array Value} (h : CB y bc mL rt n) (hts : ∀ w ∈ lw_ok, w.before args s = true) (hml : Cond.methodLink own idx y ∈ lw_ok) (hdd : d1 + 1 ≤ d) :
    CallB (rmd d mc ms) s args own idx y bc mL rt (.code y bc mL rt :: lw_ok) (rmd d1 mc1 ms1) mc1 ms1 n := by
  obtain ⟨hcode, hini, hmL, hp1, hp2, hp3⟩ := h
  exact callB_of n hts (fv_goodIn hcode) rfl rfl rfl (hts _ hini) (hts _ hml) ⟨hp1, hp2, hp3⟩ ⟨hdd, by show 8 + (mL + 11) + 30 * d1 ≤ 30 * d; omega⟩
theorem fv_callV {y : MethodName} {bc : ByteArray} {mL : Nat} {rt : Option FieldType} {n d1 mc1 ms1 idx i ci : Nat} {fs : List Value} {As : List Value} {P : Option Value → List va_E → Prop} (hd : decode cc pc = .ok (.invokevirtual idx, 3)) (hw : CV own idx y bc mL rt n) (hst : st0 = As.reverse ++ .ref i :: st) (hG : G[i]? = some (.inr (ci, fs))) (hcn : (vwCl[ci]?).map (fun z => z.1) = some y.cls) (hn : As.length = n) (hs8 : (st.map fun v => v.category).sum ≤ 8) (hc : FC y bc mL rt d1 mc1 ms1 (.ref i :: As) G P) (hdd : d1 + 1 ≤ d) (h1 : cells + mc1 ≤ mc) (h2 : slots + ms1 ≤ ms) (hq : pc + 3 = q)
    (k : ∀ (res : Option Value) (G' : List va_E), P res G' → FV cc nL ret own nm d mc ms Post (cells + mc1) (slots + ms1) q l (res.toList ++ st) G') : FV cc nL ret own nm d mc ms Post cells slots pc l st0 G := by
  subst hq
  subst hst
  intro p la e s m args below meth c D b0 kk H locs ls C w hl
  intro T0 hT X
  subst hT
  have hz := w.size X
  obtain ⟨qv, hqv, hqn⟩ := Option.map_eq_some_iff.mp hcn
  have hts := C.2.2.2.2.2.1
  have cw : CallW (rmd d mc ms) s args own y.cls idx y bc mL rt (.code y bc mL rt :: lw_ok) (rmd d1 mc1 ms1) mc1 ms1 n := ⟨hw.1.use hts hw.2.1 hdd, hts _ hw.2.2.1, hts _ hw.2.2.2⟩
  have hrec := va_recv w.1 w.2.1 hqv (ww_at (b0 := b0) (k := kk) hG)
  rw [hqn] at hrec
  have run := va_runV (g := F0 m pc ls ((As.reverse ++ .ref i :: st).map (rv b0))) (As := As.map (rv b0)) (rest := st.map (rv b0)) (b := b0 + i) (locs := locs) (cells := cells) (slots := slots) (p := p) (e := e) (below := below) (meth := meth) (nL := nL) (cc := cc) (H := T0.heap) ⟨C.1, C.2.1, C.2.2.2.1, C.2.2.2.2.1, hts⟩ (hc la D b0 kk) cw
    ⟨FP_blind, hrec, fun U hU hW => ⟨rfl, va_K.moved hW.alike w.1, by rw [hU]; exact w.2.1, by rw [hU]; exact hz, Nz.warm hW w.2.2.2.2.2⟩⟩ rfl (by rw [List.length_map]; exact hn) hl.1 (by rw [List.map_append, List.map_reverse]; rfl) (lv_room (by rw [cat_map]; exact hs8)) hd ⟨h1, h2⟩
  refine w_after run w (fun res G' H1 locs1 hp w' => ?_) T0 rfl X
  have hk := k res G' hp p la e s m args below meth c D b0 kk H1 locs1 ls C w' hl
  rw [← res_map] at hk
  exact hk
theorem fv_callS {y : MethodName} {bc : ByteArray} {mL : Nat} {rt : Option FieldType} {n d1 mc1 ms1 idx : Nat} {As : List Value} {P : Option Value → List va_E → Prop} (hd : decode cc pc = .ok (.invokestatic idx, 3)) (hw : CS own idx y bc mL rt n) (hst : st0 = As.reverse ++ st) (hn : As.length = n) (hs8 : (st.map fun v => v.category).sum ≤ 8) (hc : FC y bc mL rt d1 mc1 ms1 As G P) (hdd : d1 + 1 ≤ d) (h1 : cells + mc1 ≤ mc) (h2 : slots + ms1 ≤ ms) (hq : pc + 3 = q)
    (k : ∀ (res : Option Value) (G' : List va_E), P res G' → FV cc nL ret own nm d mc ms Post (cells + mc1) (slots + ms1) q l (res.toList ++ st) G') : FV cc nL ret own nm d mc ms Post cells slots pc l st0 G := by
  subst hq
  subst hst
  intro p la e s m args below meth c D b0 kk H locs ls C w hl
  intro T0 hT X
  subst hT
  have hz := w.size X
  have hts := C.2.2.2.2.2.1
  have run := va_runS (g := F0 m pc ls ((As.reverse ++ st).map (rv b0))) (As := As.map (rv b0)) (rest := st.map (rv b0)) (locs := locs) (cells := cells) (slots := slots) (p := p) (e := e) (below := below) (meth := meth) (nL := nL) (cc := cc) (H := T0.heap) ⟨C.1, C.2.1, C.2.2.2.1, C.2.2.2.2.1, hts⟩ (hc la D b0 kk) ⟨hw.1.use (d := d) (mc := mc) (ms := ms) hts hw.2.1 hdd, hts _ hw.2.2⟩
    ⟨FP_blind, fun U hU hW => ⟨rfl, va_K.moved hW.alike w.1, by rw [hU]; exact w.2.1, by rw [hU]; exact hz, Nz.warm hW w.2.2.2.2.2⟩⟩ rfl (by rw [List.length_map]; exact hn) hl.1 (by rw [List.map_append, List.map_reverse]) (lv_room (by rw [cat_map]; exact hs8)) hd ⟨h1, h2⟩
  refine w_after run w (fun res G' H1 locs1 hp w' => ?_) T0 rfl X
  have hk := k res G' hp p la e s m args below meth c D b0 kk H1 locs1 ls C w' hl
  rw [← res_map] at hk
  exact hk
theorem fv_callI {y : MethodName} {bc : ByteArray} {mL : Nat} {d1 mc1 ms1 idx i : Nat} {P : Option Value → List va_E → Prop} (hd : decode cc pc = .ok (.invokespecial idx, 3)) (hw : CI own idx y bc mL) (hs8 : (st.map fun v => v.category).sum ≤ 8) (hc : FC y bc mL none d1 mc1 ms1 [.ref i] G P) (hdd : d1 + 1 ≤ d) (h1 : cells + mc1 ≤ mc) (h2 : slots + ms1 ≤ ms) (hq : pc + 3 = q)
    (k : ∀ (res : Option Value) (G' : List va_E), P res G' → FV cc nL ret own nm d mc ms Post (cells + mc1) (slots + ms1) q l (res.toList ++ st) G') : FV cc nL ret own nm d mc ms Post cells slots pc l (.ref i :: st) G := by
  subst hq
  intro p la e s m args below meth c D b0 kk H locs ls C w hl
  intro T0 hT X
  subst hT
  have hz := w.size X
  have hts := C.2.2.2.2.2.1
  have run := va_runI (g := F0 m pc ls ((.ref i :: st).map (rv b0))) (As := []) (rest := st.map (rv b0)) (b := b0 + i) (locs := locs) (cells := cells) (slots := slots) (p := p) (e := e) (below := below) (meth := meth) (nL := nL) (cc := cc) (H := T0.heap) ⟨C.1, C.2.1, C.2.2.2.1, C.2.2.2.2.1, hts⟩ (hc la D b0 kk) ⟨hw.1.use (d := d) (mc := mc) (ms := ms) hts hw.2.1 hdd, hw.2.2.2, hts _ hw.2.2.1⟩
    ⟨FP_blind, fun U hU hW => ⟨rfl, va_K.moved hW.alike w.1, by rw [hU]; exact w.2.1, by rw [hU]; exact hz, Nz.warm hW w.2.2.2.2.2⟩⟩ rfl rfl hl.1 rfl (lv_room (by rw [cat_map]; exact hs8)) hd ⟨h1, h2⟩
  refine w_after run w (fun res G' H1 locs1 hp w' => ?_) T0 rfl X
  have hk := k res G' hp p la e s m args below meth c D b0 kk H1 locs1 ls C w' hl
  rw [← res_map] at hk
  exact hk
theorem fv_callN {y : MethodName} {bc : ByteArray} {mL : Nat} {d1 mc1 ms1 idx i : Nat} {P : Option Value → List va_E → Prop} (hd : decode cc pc = .ok (.invokespecial idx, 3)) (hw : CN own idx y bc mL) (hs8 : (st.map fun v => v.category).sum ≤ 8) (hc : FC y bc mL none d1 mc1 ms1 [.ref i] G P) (hdd : d1 + 1 ≤ d) (h1 : cells + mc1 ≤ mc) (h2 : slots + ms1 ≤ ms) (hq : pc + 3 = q)
    (k : ∀ (res : Option Value) (G' : List va_E), P res G' → FV cc nL ret own nm d mc ms Post (cells + mc1) (slots + ms1) q l (res.toList ++ st) G') : FV cc nL ret own nm d mc ms Post cells slots pc l (.ref i :: st) G := by
  subst hq
  intro p la e s m args below meth c D b0 kk H locs ls C w hl
  intro T0 hT X
  subst hT
  have hz := w.size X
  have hts := C.2.2.2.2.2.1
  obtain ⟨⟨hcode, hini, hmL, hp1, hp2, hp3⟩, hnn, him, hnm⟩ := hw
  have run := va_runIN (g := F0 m pc ls ((.ref i :: st).map (rv b0))) (As := []) (rest := st.map (rv b0)) (b := b0 + i) (locs := locs) (cells := cells) (slots := slots) (p := p) (e := e) (below := below) (meth := meth) (nL := nL) (cc := cc) (H := T0.heap) ⟨C.1, C.2.1, C.2.2.2.1, C.2.2.2.2.1, hts⟩ (hc la D b0 kk)
    ⟨va_cnB (R := rmd d mc ms) 0 hts (fv_goodIn hcode) rfl rfl rfl (w.2.2.2.2.2.1 _ hnn) (hts _ hini) ⟨hp1, hp2, hp3⟩ ⟨hdd, by show 8 + (mL + 11) + 30 * d1 ≤ 30 * d; omega⟩, hnm, hts _ him⟩
    ⟨FP_blind, fun U hU hW => ⟨rfl, va_K.moved hW.alike w.1, by rw [hU]; exact w.2.1, by rw [hU]; exact hz, Nz.warm hW w.2.2.2.2.2⟩⟩ rfl rfl hl.1 rfl (lv_room (by rw [cat_map]; exact hs8)) hd ⟨h1, h2⟩
  refine w_after run w (fun res G' H1 locs1 hp w' => ?_) T0 rfl X
  have hk := k res G' hp p la e s m args below meth c D b0 kk H1 locs1 ls C w' hl
  rw [← res_map] at hk
  exact hk
theorem fv_copyi {idx i0 i1 n0 n1 : Nat} {f g : Nat → Int32} {sp dp n : Int32} (hd : decode cc pc = .ok (.invokestatic idx, 3)) (hm : Cond.methodLink own idx arraycopyName ∈ lw_ok) (hnat : Cond.native arraycopyName ∈ lw_ok) (hstat : Cond.static arraycopyName ∈ lw_ok) (hini : Cond.initialized "java/lang/System" ∈ lw_ok)
    (hG0 : G[i0]? = some (.inl (0, n0, .inl f))) (hG1 : G[i1]? = some (.inl (0, n1, .inl g))) (h1 : ¬ sp < 0) (h2 : ¬ dp < 0) (h3 : ¬ n < 0) (h4 : sp.toNatClampNeg + n.toNatClampNeg ≤ n0) (h5 : dp.toNatClampNeg + n.toNatClampNeg ≤ n1) (hdd : 1 ≤ d) (hs8 : (st.map fun v => v.category).sum ≤ 8) (hq : pc + 3 = q)
    (k : FV cc nL ret own nm d mc ms Post cells slots q l st (G.set i1 (.inl (0, n1, .inl (va_cpy f g sp.toNatClampNeg dp.toNatClampNeg n.toNatClampNeg))))) : FV cc nL ret own nm d mc ms Post cells slots pc l (.int n :: .int dp :: .ref i1 :: .int sp :: .ref i0 :: st) G := by
  subst hq
  intro p la e s m args below meth c D b0 kk H locs ls C w hl
  have hts := C.2.2.2.2.2.1
  refine va_copyi (ty := .int) C.1 C.2.1 (by rw [C.2.2.2.1]; exact hl.1.symm) C.2.2.2.2.1 (hts _ hm) (hts _ hnat) (hts _ hstat) (hts _ hini) w.1 w.2.1 (ww_D b0 kk G) w.2.2.2.1 i0 i1 0 0 (ww_at hG0) (ww_at hG1) rfl rfl rfl h1 h2 h3 h4 h5 (fun _ _ => rfl) hdd ?_ hd (fun H1 locs1 hP1 hD1 hS1 => ?_)
  · rw [cat_map]
    have h9 : nativeFrameWords "java/lang/System" "arraycopy" 5 + 11 ≤ 22 := by decide +kernel
    show _ ≤ 30 * d
    omega
  · have hP1 : va_P D vwCl ((ww b0 kk G).set i1 (b0 + i1, rc b0 kk (.inl (0, n1, .inl (va_cpy f g sp.toNatClampNeg dp.toNatClampNeg n.toNatClampNeg))))) H1 := hP1
    rw [ww_set] at hP1
    exact k p la e s m args below meth c D b0 kk H1 locs1 ls C ⟨w.1, hP1, by rw [List.length_set]; exact w.2.2.1, hS1, w.2.2.2.2⟩ hl
theorem fv_min {idx : Nat} {x y : Int32} (hd : decode cc pc = .ok (.invokestatic idx, 3)) (hm : Cond.methodLink own idx Lib.Math.min.name ∈ lw_ok) (hstat : Cond.static Lib.Math.min.name ∈ lw_ok) (hini : Cond.initialized "java/lang/Math" ∈ lw_ok) (hcode : Cond.code Lib.Math.min.name Lib.Math.min.code 2 (some .int) ∈ lw_ok) (hdd : 1 ≤ d) (h1 : cells ≤ mc) (h2 : slots ≤ ms) (hs8 : (st.map fun v => v.category).sum ≤ 8) (hq : pc + 3 = q)
    (k : FV cc nL ret own nm d mc ms Post cells slots q l (.int (if y < x then y else x) :: st) G) : FV cc nL ret own nm d mc ms Post cells slots pc l (.int y :: .int x :: st) G := by
  subst hq
  intro p la e s m args below meth c D b0 kk H locs ls C w hl
  have hts := C.2.2.2.2.2.1
  exact va_mmin C.1 C.2.1 (by rw [C.2.2.2.1]; exact hl.1.symm) C.2.2.2.2.1 (hts _ hm) (hts _ hstat) (hts _ hini) (hts _ hcode) hdd (by rw [cat_map]; show _ ≤ 30 * d; omega) h1 h2 hd (k p la e s m args below meth c D b0 kk H locs ls C w hl)
end
