/-! the law's own rows: the script lies below the world -/
theorem arr_k {ty : FieldType} {A : Array Value} {s : State} (h : (Cond.arrayClass ty).before A s = true) : ∃ (cA : ClassId) (kA : Class) (comp : ClassId), s.vm.findClass ("[" ++ ty.toString) = some cA ∧ s.vm.classes[cA]? = some kA ∧ kA.kind = .array comp ty :=
  Cond.arrayClass_spec h
def LW (p : Program) (l : Launch) (e : Env) (s : State) (m : MethodId) (below : List Frame) (meth : Method) (c : Code) (b : Nat) (D : va_G) (k : Nat → ClassId) (cells slots pc : Nat) (lv : List (Nat × Value)) (st : List Value) (G : List va_E) : Prop :=
  ∀ (H : Heap) (locs : List Loc) (ls : Array Slot), Wd D s.heap.size k s G H locs cells → lv_has ls 4 lv → W p l e room_1 s m #[Value.ref b] below meth c H locs cells slots (lw_Z below #[Value.ref b] s) (F0 m pc ls st)
section
variable {p : Program} {l : Launch} {e : Env} {s : State} {m : MethodId} {below : List Frame} {meth : Method} {c : Code} {b L : Nat} {xs : Nat → Int32} {D : va_G} {k : Nat → ClassId} {cells slots pc : Nat} {lv lv' : List (Nat × Value)} {st st0 : List Value} {G : List va_E}
theorem lx_ts (C : lw_At p s m meth c b L xs) : ∀ w ∈ lw_ok, w.before #[Value.ref b] s = true := fun w hw => C.2.2.2.2.2.1 w (List.mem_filter.mp hw).1
theorem lx_aload (C : lw_At p s m meth c b L xs) {n : Fin 4} {i x : Nat} (hd : decode code pc = .ok (.aload_n n, 1)) (hi : (n : Nat) = i) (hv : (i, Value.ref x) ∈ lv) (kk : LW p l e s m below meth c b D k cells slots (pc + 1) lv (.ref x :: st) G) : LW p l e s m below meth c b D k cells slots pc lv st G :=
  fun H locs ls w hl => lv_aload_n C.1 C.2.1 hd hi (hl.2.2 _ hv) (kk H locs ls w hl)
theorem lx_iload (C : lw_At p s m meth c b L xs) {n : Fin 4} {i : Nat} {x : Int32} (hd : decode code pc = .ok (.iload_n n, 1)) (hi : (n : Nat) = i) (hv : (i, Value.int x) ∈ lv) (kk : LW p l e s m below meth c b D k cells slots (pc + 1) lv (.int x :: st) G) : LW p l e s m below meth c b D k cells slots pc lv st G :=
  fun H locs ls w hl => lv_iload_n C.1 C.2.1 hd hi (hl.2.2 _ hv) (kk H locs ls w hl)
theorem lx_iconst (C : lw_At p s m meth c b L xs) {n : Int} {v : Int32} (hd : decode code pc = .ok (.iconst n, 1)) (hv : Int32.ofInt n = v) (kk : LW p l e s m below meth c b D k cells slots (pc + 1) lv (.int v :: st) G) : LW p l e s m below meth c b D k cells slots pc lv st G :=
  fun H locs ls w hl => lv_iconst C.1 C.2.1 hd hv (kk H locs ls w hl)
theorem lx_bipush (C : lw_At p s m meth c b L xs) {n : Int} {v : Int32} (hd : decode code pc = .ok (.bipush n, 2)) (hv : (Int8.ofInt n).toInt32 = v) (kk : LW p l e s m below meth c b D k cells slots (pc + 2) lv (.int v :: st) G) : LW p l e s m below meth c b D k cells slots pc lv st G :=
  fun H locs ls w hl => lv_bipush C.1 C.2.1 hd hv (kk H locs ls w hl)
theorem lx_iadd (C : lw_At p s m meth c b L xs) {x y : Int32} (hd : decode code pc = .ok (.iadd, 1)) (kk : LW p l e s m below meth c b D k cells slots (pc + 1) lv (.int (x + y) :: st) G) : LW p l e s m below meth c b D k cells slots pc lv (.int y :: .int x :: st) G :=
  fun H locs ls w hl => lv_iadd C.1 C.2.1 hd (kk H locs ls w hl)
theorem lx_isub (C : lw_At p s m meth c b L xs) {x y : Int32} (hd : decode code pc = .ok (.isub, 1)) (kk : LW p l e s m below meth c b D k cells slots (pc + 1) lv (.int (x - y) :: st) G) : LW p l e s m below meth c b D k cells slots pc lv (.int y :: .int x :: st) G :=
  fun H locs ls w hl => lv_isub C.1 C.2.1 hd (kk H locs ls w hl)
theorem lx_iand (C : lw_At p s m meth c b L xs) {x y : Int32} (hd : decode code pc = .ok (.iand, 1)) (kk : LW p l e s m below meth c b D k cells slots (pc + 1) lv (.int (x &&& y) :: st) G) : LW p l e s m below meth c b D k cells slots pc lv (.int y :: .int x :: st) G :=
  fun H locs ls w hl => lv_iand C.1 C.2.1 hd (kk H locs ls w hl)
theorem lx_goto (C : lw_At p s m meth c b L xs) {off : Int} (tgt : Nat) (hd : decode code pc = .ok (.goto off, 3)) (ht : (pc : Int) + off = (tgt : Int)) (kk : LW p l e s m below meth c b D k cells slots tgt lv st G) : LW p l e s m below meth c b D k cells slots pc lv st G :=
  fun H locs ls w hl => lv_goto C.1 C.2.1 hd ht (kk H locs ls w hl)
theorem lx_icmp_gt (C : lw_At p s m meth c b L xs) {x y : Int32} {off : Int} (tgt : Nat) (hd : decode code pc = .ok (.if_icmp .gt off, 3)) (ht : (pc : Int) + off = (tgt : Int)) (kt : y < x → LW p l e s m below meth c b D k cells slots tgt lv st G) (kf : ¬ y < x → LW p l e s m below meth c b D k cells slots (pc + 3) lv st G) : LW p l e s m below meth c b D k cells slots pc lv (.int y :: .int x :: st) G :=
  fun H locs ls w hl => lv_icmp_gt C.1 C.2.1 hd ht (fun h => kt h H locs ls w hl) (fun h => kf h H locs ls w hl)
theorem lx_icmp_eq (C : lw_At p s m meth c b L xs) {x : Int32} {off : Int} (tgt : Nat) (hd : decode code pc = .ok (.if_icmp .eq off, 3)) (ht : (pc : Int) + off = (tgt : Int)) (kt : LW p l e s m below meth c b D k cells slots tgt lv st G) : LW p l e s m below meth c b D k cells slots pc lv (.int x :: .int x :: st) G :=
  fun H locs ls w hl => lv_icmp_eq C.1 C.2.1 hd ht (fun _ => kt H locs ls w hl) (fun h => absurd rfl h)
theorem lx_if_eq (C : lw_At p s m meth c b L xs) {x : Int32} {off : Int} (tgt : Nat) (hd : decode code pc = .ok (.ifCond .eq off, 3)) (ht : (pc : Int) + off = (tgt : Int)) (kt : x = 0 → LW p l e s m below meth c b D k cells slots tgt lv st G) (kf : ¬ x = 0 → LW p l e s m below meth c b D k cells slots (pc + 3) lv st G) : LW p l e s m below meth c b D k cells slots pc lv (.int x :: st) G :=
  fun H locs ls w hl => lv_if_eq C.1 C.2.1 hd ht (fun h => kt h H locs ls w hl) (fun h => kf h H locs ls w hl)
theorem lx_lcmp (C : lw_At p s m meth c b L xs) {x y : Int64} (hd : decode code pc = .ok (.lcmp, 1)) (kk : LW p l e s m below meth c b D k cells slots (pc + 1) lv (.int (lg_cmp x y) :: st) G) : LW p l e s m below meth c b D k cells slots pc lv (.long y :: .long x :: st) G :=
  fun H locs ls w hl => W.lcmp C.1 C.2.1 hd (kk H locs ls w hl)
theorem lx_tableIn (C : lw_At p s m meth c b L xs) {dflt lo hi : Int} {offs : Array Int} {len : Nat} {x : Int32} {off : Int} (tgt : Nat) (hd : decode code pc = .ok (.tableswitch dflt lo hi offs, len)) (h1 : ¬ x.toInt < lo) (h2 : ¬ hi < x.toInt) (ho : offs[(x.toInt - lo).toNat]? = some off) (ht : (pc : Int) + off = (tgt : Int)) (kk : LW p l e s m below meth c b D k cells slots tgt lv st G) : LW p l e s m below meth c b D k cells slots pc lv (.int x :: st) G :=
  fun H locs ls w hl => lv_tableIn C.1 C.2.1 hd h1 h2 ho ht (kk H locs ls w hl)
theorem lx_tableOut (C : lw_At p s m meth c b L xs) {dflt lo hi : Int} {offs : Array Int} {len : Nat} {x : Int32} (tgt : Nat) (hd : decode code pc = .ok (.tableswitch dflt lo hi offs, len)) (h : x.toInt < lo ∨ hi < x.toInt) (ht : (pc : Int) + dflt = (tgt : Int)) (kk : LW p l e s m below meth c b D k cells slots tgt lv st G) : LW p l e s m below meth c b D k cells slots pc lv (.int x :: st) G :=
  fun H locs ls w hl => lv_tableOut C.1 C.2.1 hd h ht (kk H locs ls w hl)
theorem lx_iinc (C : lw_At p s m meth c b L xs) {i j : Nat} {n : Int} {x v : Int32} (hd : decode code pc = .ok (.iinc i n, 3)) (hx : lv[j]? = some (i, .int x)) (hv : x + Int32.ofInt n = v) (hn : i < 4) (hl' : (i, Value.int v) :: lv.filter (fun q => !(q.1 == i) && !(q.1 + 1 == i && q.2.category == 2)) = lv') (kk : LW p l e s m below meth c b D k cells slots (pc + 3) lv' st G) : LW p l e s m below meth c b D k cells slots pc lv st G :=
  fun H locs ls w hl => lv_iinc C.1 C.2.1 hd hl hx hv hn hl' (fun ls' h' => kk H locs ls' w h')
theorem lx_istore (C : lw_At p s m meth c b L xs) {n : Fin 4} {i : Nat} {x : Int32} (hd : decode code pc = .ok (.istore_n n, 1)) (hi : (n : Nat) = i) (hn : i < 4) (hl' : (i, Value.int x) :: lv.filter (fun q => !(q.1 == i) && !(q.1 + 1 == i && q.2.category == 2)) = lv') (kk : LW p l e s m below meth c b D k cells slots (pc + 1) lv' st G) : LW p l e s m below meth c b D k cells slots pc lv (.int x :: st) G :=
  fun H locs ls w hl => lv_istore_n C.1 C.2.1 hd hi hl hn hl' (fun ls' h' => kk H locs ls' w h')
theorem lx_astore (C : lw_At p s m meth c b L xs) {n : Fin 4} {i x : Nat} (hd : decode code pc = .ok (.astore_n n, 1)) (hi : (n : Nat) = i) (hn : i < 4) (hl' : (i, Value.ref x) :: lv.filter (fun q => !(q.1 == i) && !(q.1 + 1 == i && q.2.category == 2)) = lv') (kk : LW p l e s m below meth c b D k cells slots (pc + 1) lv' st G) : LW p l e s m below meth c b D k cells slots pc lv (.ref x :: st) G :=
  fun H locs ls w hl => lv_astore_n C.1 C.2.1 hd hi hl hn hl' (fun ls' h' => kk H locs ls' w h')
theorem lx_dup (C : lw_At p s m meth c b L xs) {v : Value} (hd : decode code pc = .ok (.dup, 1)) (hc : v.category = 1) (kk : LW p l e s m below meth c b D k cells slots (pc + 1) lv (v :: v :: st) G) : LW p l e s m below meth c b D k cells slots pc lv (v :: st) G :=
  fun H locs ls w hl => lv_dup C.1 C.2.1 hd hc (kk H locs ls w hl)
theorem lx_sub (ks : List Nat) (hl : lv_pick lv ks = lv') (kk : LW p l e s m below meth c b D k cells slots pc lv' st G) : LW p l e s m below meth c b D k cells slots pc lv st G :=
  fun H locs ls w h => kk H locs ls w (lv_sub h ks hl)
theorem lx_nb (C : lw_At p s m meth c b L xs) : ¬ (fun q => s.heap.size ≤ q) b := fun h => by
  have h1 : s.heap.size ≤ b := h
  have h2 := C.2.2.2.2.2.2.2.1
  omega
theorem lx_len (C : lw_At p s m meth c b L xs) (hd : decode code pc = .ok (.arraylength, 1)) (kk : LW p l e s m below meth c b D k cells slots (pc + 1) lv (.int (nI L) :: st) G) : LW p l e s m below meth c b D k cells slots pc lv (.ref b :: st) G :=
  fun H locs ls w hl => va_slen C.1 C.2.1 C.2.2.2.2.2.2.1 C.2.2.2.2.2.2.2.1 (lx_nb C) w.2.2.2.1 hd (kk H locs ls w hl)
theorem lx_ld (C : lw_At p s m meth c b L xs) {x : Int32} (j : Nat) (hL : L < 2 ^ 31) (hx : x = nI j) (hj : j < L) (hd : decode code pc = .ok (.iaload, 1)) (kk : LW p l e s m below meth c b D k cells slots (pc + 1) lv (.int (xs j) :: st) G) : LW p l e s m below meth c b D k cells slots pc lv (.int x :: .ref b :: st) G :=
  fun H locs ls w hl => by
    obtain ⟨h1, h2⟩ := fl_in hx hj hL
    refine va_sld C.1 C.2.1 C.2.2.2.2.2.2.1 C.2.2.2.2.2.2.2.1 (lx_nb C) w.2.2.2.1 h1 hd ?_
    rw [h2]
    exact kk H locs ls w hl
/-- a number of the script, on the stack -/
theorem lx_arg (C : lw_At p s m meth c b L xs) {i jn : Nat} {j : Int} (hL : L < 2 ^ 31) (d1 : decode code pc = .ok (.aload_n 0, 1)) (d2 : decode code (pc + 1) = .ok (.iload_n 3, 1)) (d3 : decode code (pc + 2) = .ok (.iconst j, 1)) (d4 : decode code (pc + 3) = .ok (.iadd, 1)) (d5 : decode code (pc + 4) = .ok (.iaload, 1)) (h0 : (0, Value.ref b) ∈ lv) (h3 : (3, Value.int (nI i)) ∈ lv) (hj : Int32.ofInt j = nI jn) (hlt : i + jn < L) (kk : LW p l e s m below meth c b D k cells slots (pc + 5) lv (.int (xs (i + jn)) :: st) G) : LW p l e s m below meth c b D k cells slots pc lv st G :=
  lx_aload C d1 rfl h0 (lx_iload C d2 rfl h3 (lx_iconst C d3 hj (lx_iadd C d4 (lx_ld C (i + jn) hL (nI_add i jn) hlt d5 kk))))
theorem CB.useL {y : MethodName} {bc : ByteArray} {mL : Nat} {rt : Option FieldType} {n d1 mc1 ms1 idx : Nat} {args : Array Value} (h : CB y bc mL rt n) (hts : ∀ w ∈ lw_ok, w.before args s = true) (hml : Cond.methodLink RL idx y ∈ lw_ok) (hdd : d1 ≤ 8) :
    CallB room_1 s args RL idx y bc mL rt (.code y bc mL rt :: lw_ok) (rmd d1 mc1 ms1) mc1 ms1 n := by
  obtain ⟨hcode, hini, hmL, hp1, hp2, hp3⟩ := h
  exact callB_of n hts (fv_goodIn hcode) rfl rfl rfl (hts _ hini) (hts _ hml) ⟨hp1, hp2, hp3⟩ ⟨by show d1 + 1 ≤ 9; omega, by show 8 + (mL + 11) + 30 * d1 ≤ 320; omega⟩
theorem lx_call (C : lw_At p s m meth c b L xs) {y : MethodName} {bc : ByteArray} {mL : Nat} {rt : Option FieldType} {n d1 idx i ci : Nat} {fs : List (Option Nat)} {As : List Value} {D1 : Nat → Nat → Int32} {J1 : Nat → Nat → Int64} {P : Option Value → (Nat → Nat → Int32) → (Nat → Nat → Int64) → Prop} (hd : decode code pc = .ok (.invokevirtual idx, 3)) (hw : CV RL idx y bc mL rt n) (hst : st0 = (As.map (rv s.heap.size)).reverse ++ .ref (s.heap.size + i) :: st) (hs : shL[i]? = some (.inr (ci, fs))) (hcn : (vwCl[ci]?).map (fun z => z.1) = some y.cls) (hn : As.length = n) (hs8 : (st.map fun v => v.category).sum ≤ 8) (hc : FD y bc mL rt d1 (.ref i :: As) D1 J1 P) (hdd : d1 ≤ 8) (h1 : cells ≤ 600000) (h2 : slots ≤ 7302250)
    (kk : ∀ (res : Option Value) (D' : Nat → Nat → Int32) (J' : Nat → Nat → Int64), P res D' J' → LW p l e s m below meth c b D k cells slots (pc + 3) lv ((res.map (rv s.heap.size)).toList ++ st) (lay D' J')) : LW p l e s m below meth c b D k cells slots pc lv st0 (lay D1 J1) := by
  subst hst
  intro H locs ls w hl
  intro T0 hT X
  subst hT
  have hz := w.size X
  obtain ⟨qv, hqv, hqn⟩ := Option.map_eq_some_iff.mp hcn
  have hts := lx_ts C
  have cw : CallW room_1 s #[Value.ref b] RL y.cls idx y bc mL rt (.code y bc mL rt :: lw_ok) (rmd d1 0 0) 0 0 n := ⟨hw.1.useL hts hw.2.1 hdd, hts _ hw.2.2.1, hts _ hw.2.2.2⟩
  have hrec := va_recv w.1 w.2.1 hqv (ww_at (b0 := s.heap.size) (k := k) (lay_get (D := D1) (J := J1) hs))
  rw [hqn] at hrec
  have run := va_runV (g := F0 m pc ls ((As.map (rv s.heap.size)).reverse ++ .ref (s.heap.size + i) :: st)) (As := As.map (rv s.heap.size)) (rest := st) (b := s.heap.size + i) (locs := locs) (cells := cells) (slots := slots) (p := p) (e := e) (below := below) (meth := meth) (nL := 4) (cc := code) (H := T0.heap) ⟨C.1, C.2.1, C.2.2.2.1, C.2.2.2.2.1, hts⟩ (hc l D s.heap.size k) cw
    ⟨FP_blind, hrec, fun U hU hW => ⟨rfl, va_K.moved hW.alike w.1, by rw [hU]; exact w.2.1, by rw [hU]; exact hz, Nz.warm hW w.2.2.2.2.2⟩⟩ rfl (by rw [List.length_map]; exact hn) hl.1 rfl (lv_room hs8) hd ⟨h1, h2⟩
  refine w_after run w (fun res G' H1 locs1 hp w' => ?_) T0 rfl X
  obtain ⟨D', J', hg, hp'⟩ := hp
  rw [hg] at w'
  exact kk res D' J' hp' H1 locs1 ls w' hl
theorem lx_new (C : lw_At p s m meth c b L xs) {idx ci N : Nat} {Cn : String} {T : u_T} {fs : List Value} (hd : decode code pc = .ok (.new idx, 3)) (hc : vwCl[ci]? = some (Cn, T, N)) (hcl : Cond.classLink RL idx Cn ∈ lw_ok) (hins : Cond.instantiable Cn N ∈ lw_ok) (hini : Cond.initialized Cn ∈ lw_ok) (hfs : ∀ j, j < N → defaultValue (tyX ci j) = vp_V fs j) (hrf : ∀ b, fs.map (rv b) = fs) (h1 : cells + 1 ≤ 600000) (h2 : slots + N ≤ 7302250) (kk : LW p l e s m below meth c b D k (cells + 1) (slots + N) (pc + 3) lv (.ref (s.heap.size + G.length) :: st) (G ++ [.inr (ci, fs)])) : LW p l e s m below meth c b D k cells slots pc lv st G := by
  intro H locs ls w hl
  intro T0 hT X
  subst hT
  have hz := w.size X
  have hts := lx_ts C
  have hKn := w.1.1 ci _ hc
  have hW : W p l e room_1 s m #[Value.ref b] below meth c T0.heap locs cells slots (lw_Z below #[Value.ref b] s) (F0 m pc ls st) := by
    refine W.newcK C.1 C.2.1 C.2.2.2.2.1 (hts _ hcl) (hts _ hins) (hts _ hini) rfl hd h1 h2 hKn.2.1 hz (fun H1 kC hkC e1 z1 o1 => ?_)
    have hb := u_born (tyX ci) hts (cl_in ci _ hc) hKn hkC e1 (cl_ty ci _ hc)
    have hx : va_at D vwCl (s.heap.size + G.length, rc s.heap.size k (.inr (ci, fs))) H1 := by
      refine ⟨_, hc, ?_⟩
      show t_OB _ _ _ _ _ (vp_V (fs.map (rv s.heap.size)))
      rw [hrf]
      exact hb.to hfs
    exact kk H1 locs ls (w.push hz z1 o1 hx) hl
  exact hW T0 rfl X
theorem lx_init (C : lw_At p s m meth c b L xs) {y : MethodName} {bc : ByteArray} {mL d1 mc1 ms1 idx i : Nat} {P : Option Value → List va_E → Prop} (hd : decode code pc = .ok (.invokespecial idx, 3)) (hw : CI RL idx y bc mL) (hs8 : (st.map fun v => v.category).sum ≤ 8) (hc : FC y bc mL none d1 mc1 ms1 [.ref i] G P) (hdd : d1 ≤ 8) (h1 : cells + mc1 ≤ 600000) (h2 : slots + ms1 ≤ 7302250)
    (kk : ∀ (res : Option Value) (G' : List va_E), P res G' → LW p l e s m below meth c b D k (cells + mc1) (slots + ms1) (pc + 3) lv ((res.map (rv s.heap.size)).toList ++ st) G') : LW p l e s m below meth c b D k cells slots pc lv (.ref (s.heap.size + i) :: st) G := by
  intro H locs ls w hl
  intro T0 hT X
  subst hT
  have hz := w.size X
  have hts := lx_ts C
  have run := va_runI (g := F0 m pc ls (.ref (s.heap.size + i) :: st)) (As := []) (rest := st) (b := s.heap.size + i) (locs := locs) (cells := cells) (slots := slots) (p := p) (e := e) (below := below) (meth := meth) (nL := 4) (cc := code) (H := T0.heap) ⟨C.1, C.2.1, C.2.2.2.1, C.2.2.2.2.1, hts⟩ (hc l D s.heap.size k) ⟨hw.1.useL hts hw.2.1 hdd, hw.2.2.2, hts _ hw.2.2.1⟩
    ⟨FP_blind, fun U hU hW => ⟨rfl, va_K.moved hW.alike w.1, by rw [hU]; exact w.2.1, by rw [hU]; exact hz, Nz.warm hW w.2.2.2.2.2⟩⟩ rfl rfl hl.1 rfl (lv_room hs8) hd ⟨h1, h2⟩
  refine w_after run w (fun res G' H1 locs1 hp w' => ?_) T0 rfl X
  exact kk res G' hp H1 locs1 ls w' hl
/-- the law's end -/
theorem lx_end (C : lw_At p s m meth c b L xs) (h1 : cells ≤ 600000) (h2 : slots ≤ 7302250) (hd : decode code pc = .ok (.ireturn, 1)) : LW p l e s m below meth c b D k cells slots pc lv [.int 1] G := by
  intro H locs ls w hl
  refine va_forget (fun q hq => w.2.2.2.1.2.2 q hq) ?_
  refine W.widen (k := 600000) (n := 7302250) h1 h2 ?_
  exact lw_ret C.1 C.2.1 C.2.2.1 C.2.2.2.2.2.2.2.2.1 hd
end
