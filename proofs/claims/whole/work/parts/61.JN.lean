/-! THE LAYER FOR NEW CELLS: as J, but with any room, any goal, and cells that come: a place that held nothing holds a cell behind it.
The addresses of the places are fixed ahead (jG's gr); what comes lies at the heap's end. -/
theorem mK_L_7 : Cond.classLink RL 7 RX2 ∈ jtb := jtb_m 58 (by decide +kernel) (by decide +kernel)
theorem mK_X2_in : Cond.instantiable RX2 9 ∈ jtb := jtb_m 59 (by decide +kernel) (by decide +kernel)
theorem mI_obj : Cond.instanceMethod objectInit ∈ jtb := jtb_m 64 (by decide +kernel) (by decide +kernel)
theorem mC_obj : Cond.code objectInit ⟨#[0xb1]⟩ 1 none ∈ jtb := jtb_m 65 (by decide +kernel) (by decide +kernel)
theorem mK_X2_7 : Cond.classLink RX2 7 RX1 ∈ jtb := jtb_m 66 (by decide +kernel) (by decide +kernel)
theorem mK_X1_in : Cond.instantiable RX1 9 ∈ jtb := jtb_m 67 (by decide +kernel) (by decide +kernel)
theorem mK_int : Cond.arrayClass .int ∈ jtb := jtb_m 109 (by decide +kernel) (by decide +kernel)
theorem mK_boo : Cond.arrayClass .boolean ∈ jtb := jtb_m 125 (by decide +kernel) (by decide +kernel)
theorem mK_X2_30 : Cond.classLink RX2 30 RX0 ∈ jtb := jtb_m 111 (by decide +kernel) (by decide +kernel)
theorem mK_X0_in : Cond.instantiable RX0 2 ∈ jtb := jtb_m 112 (by decide +kernel) (by decide +kernel)
theorem mK_L_10 : Cond.classLink RL 10 RX3 ∈ jtb := jtb_m 510 (by decide +kernel) (by decide +kernel)
theorem mK_X3_in : Cond.instantiable RX3 17 ∈ jtb := jtb_m 511 (by decide +kernel) (by decide +kernel)
def jZ (K : jK) : Nat := K.2.2.1.heap.size
def jA (g : jG) (K : jK) : Prop := ∀ q, jZ K ≤ q → gA g q
def jO (K : jK) : Prop := va_AO "TwinPatience$Table" K.2.2.1
def jIn (K : jK) : Prop := K.2.2.2.2.2.2.1.name = "<init>"
/-- the heap's last new cell is one of the world's: so the heap has just its n new cells -/
def jLow (g : jG) (K : jK) (w : jW) (n : Nat) : Prop := n = 0 ∨ ∃ z, z < NW ∧ liveE (w z) = true ∧ gr g z + 1 = jZ K + n
def JN (g : jG) (R : Room) (K : jK) (nL : Nat) (Q : State → Prop) (pc : Nat) (loc : List (Nat × Value)) (stk : List Value) (w : jW) (n sl : Nat) : Prop :=
  match K with
  | (p, e, s, m, args, below, meth, c) => ∀ (H : Heap) (locs : List Loc) (ls : Array Slot), va_P (gD g) vwCl (jl g w) H → va_S (gA g) s.heap H locs → lv_has ls nL loc →
      W p (gL g) e R s m args below meth c H locs n sl Q (F0 m pc ls stk)
section NN
variable {g : jG} {R : Room} {K : jK} {own : String} {cc : ByteArray} {nL : Nat} {r : Option FieldType} {Q : State → Prop} {pc q : Nat} {loc : List (Nat × Value)} {stk rest : List Value} {w : jW} {n sl : Nat}
theorem n_iconst (h : jH g K own cc nL r) {i : Int} (v : Int32) (hv : Int32.ofInt i = v) (hd : decode cc pc = .ok (.iconst i, 1)) (hq : pc + 1 = q) (k : JN g R K nL Q q loc (.int v :: rest) w n sl) : JN g R K nL Q pc loc rest w n sl := by
  obtain ⟨p, e, s, m, args, below, meth, c⟩ := K
  obtain ⟨hx, hb, -, -, -, ho, ht, -⟩ := h
  subst hq
  intro H locs ls hP hS hl
  exact lv_iconst hx hb hd hv (k H locs ls hP hS hl)
theorem n_bipush (h : jH g K own cc nL r) {i : Int} (v : Int32) (hv : (Int8.ofInt i).toInt32 = v) (hd : decode cc pc = .ok (.bipush i, 2)) (hq : pc + 2 = q) (k : JN g R K nL Q q loc (.int v :: rest) w n sl) : JN g R K nL Q pc loc rest w n sl := by
  obtain ⟨p, e, s, m, args, below, meth, c⟩ := K
  obtain ⟨hx, hb, -, -, -, ho, ht, -⟩ := h
  subst hq
  intro H locs ls hP hS hl
  exact lv_bipush hx hb hd hv (k H locs ls hP hS hl)
theorem n_sipush (h : jH g K own cc nL r) {i : Int} (v : Int32) (hv : (Int16.ofInt i).toInt32 = v) (hd : decode cc pc = .ok (.sipush i, 3)) (hq : pc + 3 = q) (k : JN g R K nL Q q loc (.int v :: rest) w n sl) : JN g R K nL Q pc loc rest w n sl := by
  obtain ⟨p, e, s, m, args, below, meth, c⟩ := K
  obtain ⟨hx, hb, -, -, -, ho, ht, -⟩ := h
  subst hq
  intro H locs ls hP hS hl
  exact lv_sipush hx hb hd hv (k H locs ls hP hS hl)
theorem n_dup (h : jH g K own cc nL r) {v : Value} (hv : v.category = 1) (hd : decode cc pc = .ok (.dup, 1)) (hq : pc + 1 = q) (k : JN g R K nL Q q loc (v :: v :: rest) w n sl) : JN g R K nL Q pc loc (v :: rest) w n sl := by
  obtain ⟨p, e, s, m, args, below, meth, c⟩ := K
  obtain ⟨hx, hb, -, -, -, ho, ht, -⟩ := h
  subst hq
  intro H locs ls hP hS hl
  exact lv_dup hx hb hd hv (k H locs ls hP hS hl)
theorem n_aload_n (h : jH g K own cc nL r) (z : Nat) {i : Fin 4} {x : Nat} (hz : loc[z]? = some ((i : Nat), .ref x)) (hd : decode cc pc = .ok (.aload_n i, 1)) (hq : pc + 1 = q) (k : JN g R K nL Q q loc (.ref x :: rest) w n sl) : JN g R K nL Q pc loc rest w n sl := by
  obtain ⟨p, e, s, m, args, below, meth, c⟩ := K
  obtain ⟨hx, hb, -, -, -, ho, ht, -⟩ := h
  subst hq
  intro H locs ls hP hS hl
  exact lv_aload_n hx hb hd rfl (lv_at hl z hz) (k H locs ls hP hS hl)
theorem n_iload_n (h : jH g K own cc nL r) (z : Nat) {i : Fin 4} {x : Int32} (hz : loc[z]? = some ((i : Nat), .int x)) (hd : decode cc pc = .ok (.iload_n i, 1)) (hq : pc + 1 = q) (k : JN g R K nL Q q loc (.int x :: rest) w n sl) : JN g R K nL Q pc loc rest w n sl := by
  obtain ⟨p, e, s, m, args, below, meth, c⟩ := K
  obtain ⟨hx, hb, -, -, -, ho, ht, -⟩ := h
  subst hq
  intro H locs ls hP hS hl
  exact lv_iload_n hx hb hd rfl (lv_at hl z hz) (k H locs ls hP hS hl)
theorem n_istore_n (h : jH g K own cc nL r) {i : Fin 4} {x : Int32} {loc' : List (Nat × Value)} (hn : (i : Nat) < nL) (hl' : lst i (.int x) loc = loc') (hd : decode cc pc = .ok (.istore_n i, 1)) (hq : pc + 1 = q) (k : JN g R K nL Q q loc' rest w n sl) : JN g R K nL Q pc loc (.int x :: rest) w n sl := by
  obtain ⟨p, e, s, m, args, below, meth, c⟩ := K
  obtain ⟨hx, hb, -, -, -, ho, ht, -⟩ := h
  subst hq
  intro H locs ls hP hS hl
  exact lv_istore_n hx hb hd rfl hl hn hl' (fun ls' hl2 => k H locs ls' hP hS hl2)
theorem n_astore_n (h : jH g K own cc nL r) {i : Fin 4} {x : Nat} {loc' : List (Nat × Value)} (hn : (i : Nat) < nL) (hl' : lst i (.ref x) loc = loc') (hd : decode cc pc = .ok (.astore_n i, 1)) (hq : pc + 1 = q) (k : JN g R K nL Q q loc' rest w n sl) : JN g R K nL Q pc loc (.ref x :: rest) w n sl := by
  obtain ⟨p, e, s, m, args, below, meth, c⟩ := K
  obtain ⟨hx, hb, -, -, -, ho, ht, -⟩ := h
  subst hq
  intro H locs ls hP hS hl
  exact lv_astore_n hx hb hd rfl hl hn hl' (fun ls' hl2 => k H locs ls' hP hS hl2)
theorem n_iinc (h : jH g K own cc nL r) (z : Nat) {i : Nat} {a : Int} {x : Int32} (v : Int32) {loc' : List (Nat × Value)} (hz : loc[z]? = some (i, .int x)) (hv : x + Int32.ofInt a = v) (hn : i < nL) (hl' : lst i (.int v) loc = loc') (hd : decode cc pc = .ok (.iinc i a, 3)) (hq : pc + 3 = q) (k : JN g R K nL Q q loc' stk w n sl) : JN g R K nL Q pc loc stk w n sl := by
  obtain ⟨p, e, s, m, args, below, meth, c⟩ := K
  obtain ⟨hx, hb, -, -, -, ho, ht, -⟩ := h
  subst hq
  intro H locs ls hP hS hl
  exact lv_iinc hx hb hd hl hz hv hn hl' (fun ls' hl2 => k H locs ls' hP hS hl2)
theorem n_iadd (h : jH g K own cc nL r) {x y : Int32} (hd : decode cc pc = .ok (.iadd, 1)) (hq : pc + 1 = q) (k : JN g R K nL Q q loc (.int (x + y) :: rest) w n sl) : JN g R K nL Q pc loc (.int y :: .int x :: rest) w n sl := by
  obtain ⟨p, e, s, m, args, below, meth, c⟩ := K
  obtain ⟨hx, hb, -, -, -, ho, ht, -⟩ := h
  subst hq
  intro H locs ls hP hS hl
  exact lv_iadd hx hb hd (k H locs ls hP hS hl)
theorem n_isub (h : jH g K own cc nL r) {x y : Int32} (hd : decode cc pc = .ok (.isub, 1)) (hq : pc + 1 = q) (k : JN g R K nL Q q loc (.int (x - y) :: rest) w n sl) : JN g R K nL Q pc loc (.int y :: .int x :: rest) w n sl := by
  obtain ⟨p, e, s, m, args, below, meth, c⟩ := K
  obtain ⟨hx, hb, -, -, -, ho, ht, -⟩ := h
  subst hq
  intro H locs ls hP hS hl
  exact lv_isub hx hb hd (k H locs ls hP hS hl)
theorem n_iand (h : jH g K own cc nL r) {x y : Int32} (hd : decode cc pc = .ok (.iand, 1)) (hq : pc + 1 = q) (k : JN g R K nL Q q loc (.int (x &&& y) :: rest) w n sl) : JN g R K nL Q pc loc (.int y :: .int x :: rest) w n sl := by
  obtain ⟨p, e, s, m, args, below, meth, c⟩ := K
  obtain ⟨hx, hb, -, -, -, ho, ht, -⟩ := h
  subst hq
  intro H locs ls hP hS hl
  exact lv_iand hx hb hd (k H locs ls hP hS hl)
theorem n_land (h : jH g K own cc nL r) {x y : Int64} (hd : decode cc pc = .ok (.land, 1)) (hq : pc + 1 = q) (k : JN g R K nL Q q loc (.long (x &&& y) :: rest) w n sl) : JN g R K nL Q pc loc (.long y :: .long x :: rest) w n sl := by
  obtain ⟨p, e, s, m, args, below, meth, c⟩ := K
  obtain ⟨hx, hb, -, -, -, ho, ht, -⟩ := h
  subst hq
  intro H locs ls hP hS hl
  exact lv_land hx hb hd (k H locs ls hP hS hl)
theorem n_lor (h : jH g K own cc nL r) {x y : Int64} (hd : decode cc pc = .ok (.lor, 1)) (hq : pc + 1 = q) (k : JN g R K nL Q q loc (.long (x ||| y) :: rest) w n sl) : JN g R K nL Q pc loc (.long y :: .long x :: rest) w n sl := by
  obtain ⟨p, e, s, m, args, below, meth, c⟩ := K
  obtain ⟨hx, hb, -, -, -, ho, ht, -⟩ := h
  subst hq
  intro H locs ls hP hS hl
  exact lv_lor hx hb hd (k H locs ls hP hS hl)
theorem n_lshl (h : jH g K own cc nL r) {x : Int64} {y : Int32} (hd : decode cc pc = .ok (.lshl, 1)) (hq : pc + 1 = q) (k : JN g R K nL Q q loc (.long (x <<< (y.toInt64 &&& 63)) :: rest) w n sl) : JN g R K nL Q pc loc (.int y :: .long x :: rest) w n sl := by
  obtain ⟨p, e, s, m, args, below, meth, c⟩ := K
  obtain ⟨hx, hb, -, -, -, ho, ht, -⟩ := h
  subst hq
  intro H locs ls hP hS hl
  exact lv_lshl hx hb hd rfl (k H locs ls hP hS hl)
theorem n_i2l (h : jH g K own cc nL r) {x : Int32} (hd : decode cc pc = .ok (.i2l, 1)) (hq : pc + 1 = q) (k : JN g R K nL Q q loc (.long x.toInt64 :: rest) w n sl) : JN g R K nL Q pc loc (.int x :: rest) w n sl := by
  obtain ⟨p, e, s, m, args, below, meth, c⟩ := K
  obtain ⟨hx, hb, -, -, -, ho, ht, -⟩ := h
  subst hq
  intro H locs ls hP hS hl
  exact lv_i2l hx hb hd rfl (k H locs ls hP hS hl)
theorem n_ldc2 (h : jH g K own cc nL r) {idx : Nat} {v : Int64} (hm : Cond.constantLong own idx v ∈ jtb) (hd : decode cc pc = .ok (.ldc2_w idx, 3)) (hq : pc + 3 = q) (k : JN g R K nL Q q loc (.long v :: rest) w n sl) : JN g R K nL Q pc loc rest w n sl := by
  obtain ⟨p, e, s, m, args, below, meth, c⟩ := K
  obtain ⟨hx, hb, -, -, -, ho, ht, -⟩ := h
  subst hq
  intro H locs ls hP hS hl
  exact lv_ldc2 hx hb ho (ht _ hm) hd (k H locs ls hP hS hl)
theorem n_icmp_eq (h : jH g K own cc nL r) {x y : Int32} {off : Int} {tgt : Nat} (hd : decode cc pc = .ok (.if_icmp .eq off, 3)) (hq : pc + 3 = q) (ht : (pc : Int) + off = (tgt : Int)) (kt : x = y → JN g R K nL Q tgt loc rest w n sl) (kf : ¬ x = y → JN g R K nL Q q loc rest w n sl) : JN g R K nL Q pc loc (.int y :: .int x :: rest) w n sl := by
  obtain ⟨p, e, s, m, args, below, meth, c⟩ := K
  obtain ⟨hx, hb, -⟩ := h
  subst hq
  intro H locs ls hP hS hl
  exact lv_icmp_eq hx hb hd ht (fun z => kt z H locs ls hP hS hl) (fun z => kf z H locs ls hP hS hl)
theorem n_icmp_ge (h : jH g K own cc nL r) {x y : Int32} {off : Int} {tgt : Nat} (hd : decode cc pc = .ok (.if_icmp .ge off, 3)) (hq : pc + 3 = q) (ht : (pc : Int) + off = (tgt : Int)) (kt : y ≤ x → JN g R K nL Q tgt loc rest w n sl) (kf : ¬ y ≤ x → JN g R K nL Q q loc rest w n sl) : JN g R K nL Q pc loc (.int y :: .int x :: rest) w n sl := by
  obtain ⟨p, e, s, m, args, below, meth, c⟩ := K
  obtain ⟨hx, hb, -⟩ := h
  subst hq
  intro H locs ls hP hS hl
  exact lv_icmp_ge hx hb hd ht (fun z => kt z H locs ls hP hS hl) (fun z => kf z H locs ls hP hS hl)
theorem n_icmp_gt (h : jH g K own cc nL r) {x y : Int32} {off : Int} {tgt : Nat} (hd : decode cc pc = .ok (.if_icmp .gt off, 3)) (hq : pc + 3 = q) (ht : (pc : Int) + off = (tgt : Int)) (kt : y < x → JN g R K nL Q tgt loc rest w n sl) (kf : ¬ y < x → JN g R K nL Q q loc rest w n sl) : JN g R K nL Q pc loc (.int y :: .int x :: rest) w n sl := by
  obtain ⟨p, e, s, m, args, below, meth, c⟩ := K
  obtain ⟨hx, hb, -⟩ := h
  subst hq
  intro H locs ls hP hS hl
  exact lv_icmp_gt hx hb hd ht (fun z => kt z H locs ls hP hS hl) (fun z => kf z H locs ls hP hS hl)
theorem n_goto (h : jH g K own cc nL r) {off : Int} {tgt : Nat} (hd : decode cc pc = .ok (.goto off, 3)) (ht : (pc : Int) + off = (tgt : Int)) (k : JN g R K nL Q tgt loc rest w n sl) : JN g R K nL Q pc loc rest w n sl := by
  obtain ⟨p, e, s, m, args, below, meth, c⟩ := K
  obtain ⟨hx, hb, -⟩ := h
  intro H locs ls hP hS hl
  exact lv_goto hx hb hd ht (k H locs ls hP hS hl)
theorem n_tableIn (h : jH g K own cc nL r) {dflt lo hi : Int} {offs : Array Int} {len : Nat} {x : Int32} {off : Int} {tgt : Nat} (hd : decode cc pc = .ok (.tableswitch dflt lo hi offs, len)) (h1 : ¬ x.toInt < lo) (h2 : ¬ hi < x.toInt) (ho : offs[(x.toInt - lo).toNat]? = some off) (ht : (pc : Int) + off = (tgt : Int)) (k : JN g R K nL Q tgt loc rest w n sl) : JN g R K nL Q pc loc (.int x :: rest) w n sl := by
  obtain ⟨p, e, s, m, args, below, meth, c⟩ := K
  obtain ⟨hx, hb, -⟩ := h
  intro H locs ls hP hS hl
  exact lv_tableIn hx hb hd h1 h2 ho ht (k H locs ls hP hS hl)
theorem n_tableOut (h : jH g K own cc nL r) {dflt lo hi : Int} {offs : Array Int} {len : Nat} {x : Int32} {tgt : Nat} (hd : decode cc pc = .ok (.tableswitch dflt lo hi offs, len)) (h1 : x.toInt < lo ∨ hi < x.toInt) (ht : (pc : Int) + dflt = (tgt : Int)) (k : JN g R K nL Q tgt loc rest w n sl) : JN g R K nL Q pc loc (.int x :: rest) w n sl := by
  obtain ⟨p, e, s, m, args, below, meth, c⟩ := K
  obtain ⟨hx, hb, -⟩ := h
  intro H locs ls hP hS hl
  exact lv_tableOut hx hb hd h1 ht (k H locs ls hP hS hl)
theorem n_sub (ks : List Nat) {loc' : List (Nat × Value)} (hl' : lv_pick loc ks = loc') (k : JN g R K nL Q pc loc' stk w n sl) : JN g R K nL Q pc loc stk w n sl := by
  obtain ⟨p, e, s, m, args, below, meth, c⟩ := K
  intro H locs ls hP hS hl
  exact k H locs ls hP hS (lv_sub hl ks hl')
theorem n_w {w' : jW} (hw : w = w') (k : JN g R K nL Q pc loc stk w' n sl) : JN g R K nL Q pc loc stk w n sl := by
  subst hw; exact k
theorem jn_sz {p : Program} {e : Env} {s : State} {m : MethodId} {args : Array Value} {below : List Frame} {meth : Method} {c : Code} {H : Heap} {locs : List Loc} {f : JFrame} (hlo : jLow g (p, e, s, m, args, below, meth, c) w n) (hP : va_P (gD g) vwCl (jl g w) H) (hS : va_S (gA g) s.heap H locs) (k : H.size = s.heap.size + n → W p (gL g) e R s m args below meth c H locs n sl Q f) : W p (gL g) e R s m args below meth c H locs n sl Q f := by
  intro T hT X
  have h1 : T.heap.size ≤ s.heap.size + n := X.heapSize
  rw [hT] at h1
  refine k (Nat.le_antisymm h1 ?_) T hT X
  rcases hlo with h0 | ⟨z, hz, hl, he⟩
  · rw [h0]; exact hS.1
  · have h2 : gr g z < H.size := (jl_P.mp hP z hz hl).lt
    have h3 : gr g z + 1 = s.heap.size + n := he
    omega
theorem n_objInit (h : jH g K own cc nL r) {idx a : Nat} (hm : Cond.methodLink own idx objectInit ∈ jtb) (hfr : 1 ≤ R.frames) (hlo : (rest.map fun v => v.category).sum + 12 ≤ R.locals) (hd : decode cc pc = .ok (.invokespecial idx, 3)) (hq : pc + 3 = q) (k : JN g R K nL Q q loc rest w n sl) : JN g R K nL Q pc loc (.ref a :: rest) w n sl := by
  obtain ⟨p, e, s, m, args, below, meth, c⟩ := K
  obtain ⟨hx, hb, hml, -, -, ho, ht, -⟩ := h
  subst hq
  intro H locs ls hP hS hl
  exact W.objInit hx hb ho (ht _ hm) (ht _ mI_obj) (ht _ mC_obj) rfl (hl.1.trans hml.symm) rfl hd hfr (by simpa [JFrame.monitorRoom] using hlo) (k H locs ls hP hS hl)
theorem n_get (h : jH g K own cc nL r) {C : String} {T : u_T} {N ci index z : Nat} {fs : List Value} {v : Value} (hin : ∀ w ∈ u_ws C T N, w ∈ jtb) (hc : vwCl[ci]? = some (C, T, N)) (k0 : Nat) (hk : k0 < N) (hm : Cond.fieldLink own index (T k0).1 (T k0).2.1 (T k0).2.2.1 ∈ jtb) (hz : z < NW) (hw : w z = .inr (ci, fs)) (hv : fs[k0]? = some v) (hd : decode cc pc = .ok (.getfield index, 3)) (hq : pc + 3 = q)
    (k : JN g R K nL Q q loc (v :: rest) w n sl) : JN g R K nL Q pc loc (.ref (gr g z) :: rest) w n sl := by
  obtain ⟨p, e, s, m, args, below, meth, c⟩ := K
  obtain ⟨hx, hb, -, -, -, ho, ht, hD, hSt⟩ := h
  subst hq
  intro H locs ls hP hS hl
  obtain ⟨kz, hkz, hsz⟩ := jl_ix g w hz hw (lv_live hc)
  exact va_get hx hb ht hin ho hSt.2.1 hP kz hkz hc k0 hk (ht _ hm) (fun _ h9 => h9) hv hd (k H locs ls hP hS hl)
theorem n_put (h : jH g K own cc nL r) {C : String} {T : u_T} {N ci index z : Nat} {fs : List Value} {v : Value} {ty : FieldType} (hin : ∀ w ∈ u_ws C T N, w ∈ jtb) (hc : vwCl[ci]? = some (C, T, N)) {ty0 : Nat → FieldType} (hty : ∀ k, k < N → parseFieldDescriptor (T k).2.2.1 = some (ty0 k)) (hnm : ∀ a, a < N → ∀ b, b < N → a ≠ b → (T a).2.1 ≠ (T b).2.1) (k0 : Nat) (hk : k0 < N) (hm : Cond.fieldLink own index (T k0).1 (T k0).2.1 (T k0).2.2.1 ∈ jtb) (hfin : (T k0).2.2.2 = false) (hty0 : ty0 k0 = ty) (hn : narrow ty v = v) (hfit : fits ty v = true) (hz : z < NW) (hw : w z = .inr (ci, fs)) (hlen : k0 < fs.length) (hd : decode cc pc = .ok (.putfield index, 3)) (hq : pc + 3 = q)
    (k : JN g R K nL Q q loc rest (va_up w z (.inr (ci, fs.set k0 v))) n sl) : JN g R K nL Q pc loc (v :: .ref (gr g z) :: rest) w n sl := by
  obtain ⟨p, e, s, m, args, below, meth, c⟩ := K
  obtain ⟨hx, hb, -, -, -, ho, ht, hD, hSt⟩ := h
  subst hq
  intro H locs ls hP hS hl
  obtain ⟨kz, hkz, hsz⟩ := jl_ix g w hz hw (lv_live hc)
  refine va_put hx hb ht hin ty0 hty hnm ho hSt.2.1 hP (jl_D hD w) hS kz hkz hc k0 hk (ht _ hm) (fun _ h9 => h9) hfin (by rw [hty k0 hk, hty0]) hn hfit hlen hd (fun H1 locs1 hP1 hD1 hS1 => ?_)
  rw [hsz _ (lv_live hc)] at hP1
  exact k H1 locs1 ls hP1 hS1 hl
theorem n_putF (h : jH g K own cc nL r) {C : String} {T : u_T} {N ci index z : Nat} {fs : List Value} {v : Value} {ty : FieldType} (hin : ∀ w ∈ u_ws C T N, w ∈ jtb) (hc : vwCl[ci]? = some (C, T, N)) {ty0 : Nat → FieldType} (hty : ∀ k, k < N → parseFieldDescriptor (T k).2.2.1 = some (ty0 k)) (hnm : ∀ a, a < N → ∀ b, b < N → a ≠ b → (T a).2.1 ≠ (T b).2.1) (k0 : Nat) (hk : k0 < N) (hm : Cond.fieldLink own index (T k0).1 (T k0).2.1 (T k0).2.2.1 ∈ jtb) (hfin : (T k0).2.2.2 = true) (hin2 : jIn K) (hdecl : (T k0).1 = own) (hty0 : ty0 k0 = ty) (hn : narrow ty v = v) (hfit : fits ty v = true) (hz : z < NW) (hw : w z = .inr (ci, fs)) (hlen : k0 < fs.length) (hd : decode cc pc = .ok (.putfield index, 3)) (hq : pc + 3 = q)
    (k : JN g R K nL Q q loc rest (va_up w z (.inr (ci, fs.set k0 v))) n sl) : JN g R K nL Q pc loc (v :: .ref (gr g z) :: rest) w n sl := by
  obtain ⟨p, e, s, m, args, below, meth, c⟩ := K
  obtain ⟨hx, hb, -, -, -, ho, ht, hD, hSt⟩ := h
  subst hq
  intro H locs ls hP hS hl
  obtain ⟨kz, hkz, hsz⟩ := jl_ix g w hz hw (lv_live hc)
  refine va_putF hx hb ht hin ty0 hty hnm ho hSt.2.1 hP (jl_D hD w) hS kz hkz hc k0 hk (ht _ hm) (fun _ h9 => h9) hfin hin2 hdecl (by rw [hty k0 hk, hty0]) hn hfit hlen hd (fun H1 locs1 hP1 hD1 hS1 => ?_)
  rw [hsz _ (lv_live hc)] at hP1
  exact k H1 locs1 ls hP1 hS1 hl
theorem n_alen (h : jH g K own cc nL r) {z : Nat} {cA : ClassId} {x : vp_A} (t0 : Nat) {ty : FieldType} (v : Int32) (hz : z < NW) (hw : w z = .inl (cA, x)) (ht0 : (jty g)[t0]? = some (cA, ty)) (hv : Int32.ofNat x.1 = v) (hd : decode cc pc = .ok (.arraylength, 1)) (hq : pc + 1 = q)
    (k : JN g R K nL Q q loc (.int v :: rest) w n sl) : JN g R K nL Q pc loc (.ref (gr g z) :: rest) w n sl := by
  obtain ⟨p, e, s, m, args, below, meth, c⟩ := K
  obtain ⟨hx, hb, -, -, -, ho, ht, hD, hSt⟩ := h
  subst hq
  intro H locs ls hP hS hl
  obtain ⟨kz, hkz, hsz⟩ := jl_ix g w hz hw rfl
  exact va_alen hx hb hSt.2.1 hP kz t0 hkz ht0 hv hd (k H locs ls hP hS hl)
theorem n_aast (h : jH g K own cc nL r) {z y N : Nat} {f : Nat → Option Nat} {fs : List Value} {i : Int32} (hz : z < NW) (hw : w z = .inl (gT g, N, .inr (.inr (.inr (.inr f))))) (hy : y < NW) (hwy : w y = .inr (1, fs)) (hi : vp_in i N) (hd : decode cc pc = .ok (.aastore, 1)) (hq : pc + 1 = q)
    (k : JN g R K nL Q q loc rest (va_up w z (.inl (gT g, N, .inr (.inr (.inr (.inr (va_up f i.toNatClampNeg (some (gr g y))))))))) n sl) : JN g R K nL Q pc loc (.ref (gr g y) :: .int i :: .ref (gr g z) :: rest) w n sl := by
  obtain ⟨p, e, s, m, args, below, meth, c⟩ := K
  obtain ⟨hx, hb, -, -, -, ho, ht, hD, hSt⟩ := h
  subst hq
  intro H locs ls hP hS hl
  obtain ⟨kz, hkz, hsz⟩ := jl_ix g w hz hw rfl
  obtain ⟨ky, hky, -⟩ := jl_ix g w hy hwy rfl
  refine va_astq (r := (RX1, TX1, 9)) hx hb hSt.2.1 hP (jl_D hD w) hS kz 2 ky 1 hkz rfl hky rfl hi hd (fun H1 locs1 hP1 hD1 hS1 => ?_)
  rw [hsz _ rfl] at hP1
  exact k H1 locs1 ls hP1 hS1 hl
theorem jn_P {w : jW} {H H1 : Heap} {z : Nat} {c : va_E} {h0 : Nat} (hP : va_P (gD g) vwCl (jl g w) H) (hs : H.size = h0) (hgz : gr g z = h0) (o1 : ∀ q, q < h0 → H1[q]? = H[q]?) (hat : va_at (gD g) vwCl (gr g z, c) H1) : va_P (gD g) vwCl (jl g (va_up w z c)) H1 := by
  refine jl_P.mpr (fun p hp hl => ?_)
  by_cases hpz : p = z
  · subst hpz
    rw [show va_up w p c p = c from if_pos rfl]
    exact hat
  · have e : va_up w z c p = w p := if_neg hpz
    rw [e] at hl ⊢
    have hat2 := jl_P.mp hP p hp hl
    exact hat2.kept (o1 _ (hs ▸ hat2.lt))
theorem jn_S {A : Nat → Prop} {H0 H H1 : Heap} {locs : List Loc} {h0 : Nat} (hS : va_S A H0 H locs) (hs : H.size = h0) (z1 : H1.size = h0 + 1) (o1 : ∀ q, q < h0 → H1[q]? = H[q]?) : va_S A H0 H1 locs :=
  ⟨Nat.le_trans hS.1 (by omega), fun x h1 h2 => (o1 x (by have := hS.1; omega)).trans (hS.2.1 x h1 h2), hS.2.2⟩
theorem n_new (h : jH g K own cc nL r) {C : String} {T : u_T} {N ci index z : Nat} {fs : List Value} (hin : ∀ w ∈ u_ws C T N, w ∈ jtb) {ty : Nat → FieldType} (hty : ∀ k, k < N → parseFieldDescriptor (T k).2.2.1 = some (ty k)) (hcl : Cond.classLink own index C ∈ jtb) (hinst : Cond.instantiable C N ∈ jtb) (hini : Cond.initialized C ∈ jtb) (hc : vwCl[ci]? = some (C, T, N)) (hfs : ∀ j, j < N → defaultValue (ty j) = vp_V fs j) (hcells : n + 1 ≤ R.cells) (hslots : sl + N ≤ R.slots) (hgz : gr g z = jZ K + n) (hlo : jLow g K w n) (hd : decode cc pc = .ok (.new index, 3)) (hq : pc + 3 = q)
    (k : JN g R K nL Q q loc (.ref (gr g z) :: rest) (va_up w z (.inr (ci, fs))) (n + 1) (sl + N)) : JN g R K nL Q pc loc rest w n sl := by
  obtain ⟨p, e, s, m, args, below, meth, c⟩ := K
  obtain ⟨hx, hb, -, -, -, ho, ht, hD, hSt⟩ := h
  subst hq
  intro H locs ls hP hS hl
  refine jn_sz hlo hP hS (fun hs => ?_)
  have hKn := hSt.2.1.1 ci _ hc
  have hgz : gr g z = s.heap.size + n := hgz
  refine W.newcK hx hb ho (ht _ hcl) (ht _ hinst) (ht _ hini) rfl hd hcells hslots hKn.2.1 hs (fun H1 kC hkC e1 z1 o1 => ?_)
  rw [← hgz] at hs e1 z1 o1 ⊢
  exact k H1 locs ls (jn_P hP hs rfl o1 ⟨_, hc, (u_born ty ht hin hKn hkC e1 hty).to hfs⟩) (jn_S hS hs z1 o1) hl
theorem n_newa (h : jH g K own cc nL r) {N z : Nat} {v : Int32} (hn : ¬ v < 0) (hN : v.toNatClampNeg = N) (hbytes : N * componentBytes .int ≤ 536870912) (hcells : n + 1 ≤ R.cells) (hslots : sl + N ≤ R.slots) (hgz : gr g z = jZ K + n) (hlo : jLow g K w n) (hd : decode cc pc = .ok (.newarray .int, 2)) (hq : pc + 2 = q)
    (k : JN g R K nL Q q loc (.ref (gr g z) :: rest) (va_up w z (.inl (gI g, N, .inl (fun _ => 0)))) (n + 1) (sl + N)) : JN g R K nL Q pc loc (.int v :: rest) w n sl := by
  obtain ⟨p, e, s, m, args, below, meth, c⟩ := K
  obtain ⟨hx, hb, -, -, -, ho, ht, hD, hSt⟩ := h
  subst hq
  intro H locs ls hP hS hl
  refine jn_sz hlo hP hS (fun hs => ?_)
  have hgz : gr g z = s.heap.size + n := hgz
  refine va_newaK (atype := .int) hx hb (ht _ mK_int) rfl hd rfl hn hN hbytes hcells hslots hs (fun H1 cA e1 z1 o1 hAr hNm => ?_)
  have hcA : cA = gI g := by
    have h2 : s.vm.findClass ("[" ++ (FieldType.int).toString) = some (gI g) := (hSt.2.1.2 0 _ rfl).2
    exact Option.some.inj (hNm.symm.trans h2)
  subst hcA
  rw [← hgz] at hs e1 z1 o1 ⊢
  exact k H1 locs ls (jn_P hP hs rfl o1 (by show H1[gr g z]? = some (vp_cell _ _); rw [vp_cell_i]; exact e1)) (jn_S hS hs z1 o1) hl
theorem n_newz (h : jH g K own cc nL r) {N z : Nat} {v : Int32} (hn : ¬ v < 0) (hN : v.toNatClampNeg = N) (hbytes : N * componentBytes .boolean ≤ 536870912) (hcells : n + 1 ≤ R.cells) (hslots : sl + N ≤ R.slots) (hgz : gr g z = jZ K + n) (hlo : jLow g K w n) (hd : decode cc pc = .ok (.newarray .boolean, 2)) (hq : pc + 2 = q)
    (k : JN g R K nL Q q loc (.ref (gr g z) :: rest) (va_up w z (.inl (gZ g, N, .inl (fun _ => 0)))) (n + 1) (sl + N)) : JN g R K nL Q pc loc (.int v :: rest) w n sl := by
  obtain ⟨p, e, s, m, args, below, meth, c⟩ := K
  obtain ⟨hx, hb, -, -, -, ho, ht, hD, hSt⟩ := h
  subst hq
  intro H locs ls hP hS hl
  refine jn_sz hlo hP hS (fun hs => ?_)
  have hgz : gr g z = s.heap.size + n := hgz
  refine va_newaK (atype := .boolean) hx hb (ht _ mK_boo) rfl hd rfl hn hN hbytes hcells hslots hs (fun H1 cA e1 z1 o1 hAr hNm => ?_)
  have hcA : cA = gZ g := by
    have h2 : s.vm.findClass ("[" ++ (FieldType.boolean).toString) = some (gZ g) := (hSt.2.1.2 1 _ rfl).2
    exact Option.some.inj (hNm.symm.trans h2)
  subst hcA
  rw [← hgz] at hs e1 z1 o1 ⊢
  exact k H1 locs ls (jn_P hP hs rfl o1 (by show H1[gr g z]? = some (vp_cell _ _); rw [vp_cell_i]; exact e1)) (jn_S hS hs z1 o1) hl
theorem n_newq (h : jH g K own cc nL r) (hO : jO K) {N z index : Nat} {v : Int32} (hcl : Cond.classLink own index RX1 ∈ jtb) (hn : ¬ v < 0) (hN : v.toNatClampNeg = N) (hbytes : N * 4 ≤ 536870912) (hcells : n + 1 ≤ R.cells) (hslots : sl + N ≤ R.slots) (hgz : gr g z = jZ K + n) (hlo : jLow g K w n) (hd : decode cc pc = .ok (.anewarray index, 3)) (hq : pc + 3 = q)
    (k : JN g R K nL Q q loc (.ref (gr g z) :: rest) (va_up w z (.inl (gT g, N, .inr (.inr (.inr (.inr (fun _ => none))))))) (n + 1) (sl + N)) : JN g R K nL Q pc loc (.int v :: rest) w n sl := by
  obtain ⟨p, e, s, m, args, below, meth, c⟩ := K
  obtain ⟨hx, hb, -, -, -, ho, ht, hD, hSt⟩ := h
  subst hq
  subst hN
  intro H locs ls hP hS hl
  refine jn_sz hlo hP hS (fun hs => ?_)
  have hgz : gr g z = s.heap.size + n := hgz
  refine W.anew hx hb ho (ht _ hcl) (va_AO.use hO) rfl hd rfl hn hbytes hcells hslots fun cA kA comp f1 f2 f3 f4 => ?_
  generalize hH1 : H.push ({ cls := cA, slots := Array.replicate v.toNatClampNeg .null, vm := .none } : Cell) = H1
  have z1 : H1.size = H.size + 1 := by rw [← hH1, Array.size_push]
  have e1 : H1[H.size]? = some (arrV cA v.toNatClampNeg (fun _ => .null)) := by rw [← hH1, Array.getElem?_push_size, ← arrV_new]
  have o1 : ∀ q : Nat, q < H.size → H1[q]? = H[q]? := fun q hq => by rw [← hH1, Array.getElem?_push, if_neg (Nat.ne_of_lt hq)]
  have hcA : cA = gT g := by
    obtain ⟨kA2, comp2, g1, g2, g3, g4⟩ := (hSt.2.1.2 2 _ rfl).2
    exact Option.some.inj (f1.symm.trans g4)
  subst hcA
  rw [← hgz] at hs
  rw [hs] at z1 e1 o1 ⊢
  exact k H1 locs ls (jn_P hP hs rfl o1 (by show H1[gr g z]? = some (vp_cell _ _); rw [vp_cell_q]; exact e1)) (jn_S hS hs z1 o1) hl
end NN
/-- a constructor's contract: with sz cells in the heap, from the world w to the world w', with mc new cells of ms slots -/
def ConC (g : jG) (d mc ms : Nat) (y : MethodName) (b : ByteArray) (nL sz : Nat) (As : List Value) (w : jW) (Ψ : jW → Prop) : Prop :=
  Met (gL g) y (.code y b nL none :: jtb) { frames := d, cells := mc, slots := ms, locals := 40 * d } (fun v U => (v = As.toArray ∧ jD g ∧ va_P (gD g) vwCl (jl g w) U.heap ∧ jSt g U U.heap) ∧ U.heap.size = sz ∧ (∀ q, sz ≤ q → gA g q) ∧ va_AO "TwinPatience$Table" U)
    (fun _ st oc t => (oc = .returned none ∧ ∃ w', Ψ w' ∧ va_P (gD g) vwCl (jl g w') t.heap) ∧ va_F (gA g) st t) mc ms (gA g)
theorem conC_of {g : jG} {d mc ms nL sz : Nat} {y : MethodName} {b : ByteArray} {As : List Value} {w : jW} {Ψ : jW → Prop} (hy : plainFor y = true) (hyn : y.name = "<init>") (hn : (lg_sl As).length ≤ nL) (loc : List (Nat × Value)) (hloc : lv_args 0 As = loc)
    (k : ∀ (K : jK) (Q : State → Prop), jH g K y.cls b nL none → jZ K = sz → jA g K → jO K → jIn K → (∀ q, decode b q = .ok (.return_, 1) → ∀ (loc' : List (Nat × Value)) (w' : jW), Ψ w' → JN g { frames := d, cells := mc, slots := ms, locals := 40 * d } K nL Q q loc' [] w' mc ms) → JN g { frames := d, cells := mc, slots := ms, locals := 40 * d } K nL Q 0 loc [] w 0 0) : ConC g d mc ms y b nL sz As w Ψ := by
  unfold ConC Met
  refine MetFree.of_bodySF (code := b) (maxLocals := nL) (ret := none) hy ?_ ?_
  · intro args s m h hn
    obtain ⟨meth, c, h1, h2, h3, h4, h5, h6, -, -⟩ := Cond.code_spec hn (atoms_spec (ws := .code y b nL none :: jtb) h _ List.mem_cons_self)
    exact ⟨meth, c, h1, h2, h3, h4, h5, h6⟩
  · intro p e s m args below meth c s₁ B hml hv _
    have hh0 : s₁.heap = s.heap := by rw [B.state]; rfl
    obtain ⟨⟨rfl, hD, hP, hSt⟩, hsz, hA, hO⟩ := hv
    have hts := atoms_spec (ws := .code y b nL none :: jtb) B.pre
    have h : jH g (p, e, s, m, As.toArray, below, meth, c) y.cls b nL none := ⟨B.exec, B.bytes, hml, B.returns, B.notSynchronized, findClass_of_methodNamed B.named, fun w hw => hts w (List.mem_cons_of_mem _ hw), hD, hSt⟩
    have hl := lv_entry As (n := nL) hn
    rw [hloc] at hl
    rw [lg_entry_eq]
    have hnm : meth.name = y.name := (name_of_methodNamed B.named B.method).1
    obtain ⟨t, a1, o, b1, b2, b3⟩ := k (p, e, s, m, As.toArray, below, meth, c) (MQ below (fun _ st oc t => (oc = .returned none ∧ ∃ w', Ψ w' ∧ va_P (gD g) vwCl (jl g w') t.heap) ∧ va_F (gA g) st t) As.toArray s mc ms (gA g)) h hsz (fun q hq => hA q (by rw [← hsz]; exact hq)) hO (hnm.trans hyn)
      (fun q hd loc' w' hΨ H locs ls hP1 hS1 hl1 => W.vret B.exec B.bytes B.returns (fun t ht2 hW => ⟨⟨rfl, w', hΨ, by rw [ht2]; exact hP1⟩, hS1.F ht2⟩) hS1.2.2 hd B.notSynchronized) s.heap [] _ hP va_S.rf hl s₁ hh0 (Stand.of_body B)
    exact ⟨t, o, a1, b1, b2, ⟨b3.1, b3.2⟩⟩
theorem conC_blind {g : jG} {w : jW} {As : List Value} {sz : Nat} : FrameBlind (fun v U => (v = As.toArray ∧ jD g ∧ va_P (gD g) vwCl (jl g w) U.heap ∧ jSt g U U.heap) ∧ U.heap.size = sz ∧ (∀ q, sz ≤ q → gA g q) ∧ va_AO "TwinPatience$Table" U) := fun a U gg mk h => ⟨jPc_blind g As w a U gg mk h.1, h.2.1, h.2.2.1, va_AO.moved (u := U) (U := U.calling gg mk a) (Vm.Alike.refl U.vm) h.2.2.2⟩
section NC
variable {g : jG} {R : Room} {K : jK} {own : String} {cc : ByteArray} {nL : Nat} {r : Option FieldType} {Q : State → Prop} {pc q : Nat} {loc : List (Nat × Value)} {stk rest : List Value} {w : jW} {Ψ : jW → Prop} {n sl : Nat}
variable {y : MethodName} {b : ByteArray} {n' : Nat} {np idx : Nat} {As : List Value} {z d' mc ms sz : Nat}
theorem n_run {p : Program} {e : Env} {s : State} {m : MethodId} {args : Array Value} {below : List Frame} {meth : Method} {c : Code} {H : Heap} {locs : List Loc} {ls : Array Slot} {st0 : List Value}
    (hr : va_Run p (gL g) e R s m args below meth c H locs n sl mc ms (F0 m pc ls st0) rest (fun st oc t => (oc = .returned none ∧ ∃ w', Ψ w' ∧ va_P (gD g) vwCl (jl g w') t.heap) ∧ va_F (gA g) st t) (gA g)) (hS : va_S (gA g) s.heap H locs) (hq : pc + 3 = q)
    (k : ∀ w' H1 locs1, Ψ w' → va_P (gD g) vwCl (jl g w') H1 → va_S (gA g) s.heap H1 locs1 → W p (gL g) e R s m args below meth c H1 locs1 (n + mc) (sl + ms) Q (F0 m q ls rest)) : W p (gL g) e R s m args below meth c H locs n sl Q (F0 m pc ls st0) := by
  subst hq
  intro T hT X
  obtain ⟨v, st₀, t, T', L, h0, X', hL, e1, e2, ⟨⟨hv, w', hΨ, hP⟩, hz, hk⟩, st⟩ := hr T hT X
  cases hv
  rw [h0] at hz hk
  obtain ⟨t2, a1, b1⟩ := k w' T'.heap (locs ++ L) hΨ (by rw [e1]; exact hP)
    ⟨Nat.le_trans hS.1 (by rw [e1]; exact hz), fun q h1 h2 => by rw [e1, hk q (Nat.lt_of_lt_of_le h1 hS.1) h2]; exact hS.2.1 q h1 h2, fun q hq => by
      rcases List.mem_append.mp hq with h | h
      · exact hS.2.2 q h
      · exact hL q h⟩ T' rfl X'
  exact ⟨t2, st t2 a1, b1⟩
theorem n_cI (h : jH g K own cc nL r) (hA : jA g K) (hO : jO K) (mo : MOK y b n' none np) (hyn : y.name = "<init>") (mi : Cond.instanceMethod y ∈ jtb) (ml : Cond.methodLink own idx y ∈ jtb) (hc : ConC g d' mc ms y b n' sz (.ref (gr g z) :: As) w Ψ) (hsz : jZ K + n = sz) (hlo : jLow g K w n) (hfr : d' + 1 ≤ R.frames) (hlc : 40 * d' + 40 ≤ R.locals) (hcl : n + mc ≤ R.cells) (hsl : sl + ms ≤ R.slots) (hs : stk = As.reverse ++ .ref (gr g z) :: rest) (hnp : As.length = np) (hcat : (rest.map fun v => v.category).sum ≤ 8) (hd : decode cc pc = .ok (.invokespecial idx, 3)) (hq : pc + 3 = q)
    (k : ∀ w', Ψ w' → JN g R K nL Q q loc rest w' (n + mc) (sl + ms)) : JN g R K nL Q pc loc stk w n sl := by
  obtain ⟨p, e, s, m, args, below, meth, c⟩ := K
  obtain ⟨hx, hb, hml, hr, hlk, ho, ht, hD, hSt⟩ := h
  subst hs
  intro H locs ls hP hS hl
  refine jn_sz hlo hP hS (fun hsH => ?_)
  obtain ⟨m1, m2, m3, m4, m5⟩ := mo
  have hsz : s.heap.size + n = sz := hsz
  refine n_run (va_runI (As := As) (rest := rest) ⟨hx, hb, hml, ho, ht⟩ hc ⟨callB_of np ht (jtb_in y b n' none m1) rfl rfl rfl (ht _ m2) (ht _ ml) ⟨m3.1, m3.2, m4⟩ ⟨hfr, by show 8 + (n' + 11) + 40 * d' ≤ R.locals; omega⟩, hyn, ht _ mi⟩ ⟨conC_blind, fun U hU hW => ⟨⟨rfl, hD, by rw [hU]; exact hP, by rw [hU]; exact jSt_to hSt hS hW⟩, by rw [hU, hsH]; exact hsz, fun q hq => hA q (by show s.heap.size ≤ q; omega), va_AO.moved hW.alike hO⟩⟩ rfl hnp hl.1 rfl (lv_room hcat) hd ⟨hcl, hsl⟩) hS hq (fun w' H1 locs1 hΨ hP1 hS1 => k w' hΨ H1 locs1 ls hP1 hS1 hl)
theorem n_cIN (h : jH g K own cc nL r) (hA : jA g K) (hO : jO K) (mo : MOK y b n' none np) (hyn : y.name = "<init>") (mi : Cond.instanceMethod y ∈ jtb) {host : String} (ml : (own, idx, y, host) ∈ jns) (hc : ConC g d' mc ms y b n' sz (.ref (gr g z) :: As) w Ψ) (hsz : jZ K + n = sz) (hlo : jLow g K w n) (hfr : d' + 1 ≤ R.frames) (hlc : 40 * d' + 40 ≤ R.locals) (hcl : n + mc ≤ R.cells) (hsl : sl + ms ≤ R.slots) (hs : stk = As.reverse ++ .ref (gr g z) :: rest) (hnp : As.length = np) (hcat : (rest.map fun v => v.category).sum ≤ 8) (hd : decode cc pc = .ok (.invokespecial idx, 3)) (hq : pc + 3 = q)
    (k : ∀ w', Ψ w' → JN g R K nL Q q loc rest w' (n + mc) (sl + ms)) : JN g R K nL Q pc loc stk w n sl := by
  obtain ⟨p, e, s, m, args, below, meth, c⟩ := K
  obtain ⟨hx, hb, hml, hr, hlk, ho, ht, hD, hSt⟩ := h
  subst hs
  intro H locs ls hP hS hl
  refine jn_sz hlo hP hS (fun hsH => ?_)
  obtain ⟨m1, m2, m3, m4, m5⟩ := mo
  have hsz : s.heap.size + n = sz := hsz
  refine n_run (va_runIN (As := As) (rest := rest) ⟨hx, hb, hml, ho, ht⟩ hc ⟨va_cnB np ht (jtb_in y b n' none m1) rfl rfl rfl (hSt.1.1 _ ml) (ht _ m2) ⟨m3.1, m3.2, m4⟩ ⟨hfr, by show 8 + (n' + 11) + 40 * d' ≤ R.locals; omega⟩, hyn, ht _ mi⟩ ⟨conC_blind, fun U hU hW => ⟨⟨rfl, hD, by rw [hU]; exact hP, by rw [hU]; exact jSt_to hSt hS hW⟩, by rw [hU, hsH]; exact hsz, fun q hq => hA q (by show s.heap.size ≤ q; omega), va_AO.moved hW.alike hO⟩⟩ rfl hnp hl.1 rfl (lv_room hcat) hd ⟨hcl, hsl⟩) hS hq (fun w' H1 locs1 hΨ hP1 hS1 => k w' hΨ H1 locs1 ls hP1 hS1 hl)
theorem n_cV (h : jH g K own cc nL r) {r' : Option FieldType} {Φ : Option Value → jW → Prop} {C : String} {T : u_T} {N ci : Nat} {fs : List Value} (mo : MOK y b n' r' np) (mi : Cond.instanceMethod y ∈ jtb) (mv : Cond.selects C y y ∈ jtb) (ml : Cond.methodLink own idx y ∈ jtb) (hc : Con g d' y b n' r' (.ref (gr g z) :: As) w Φ) (hfr : d' + 1 ≤ R.frames) (hlc : 40 * d' + 40 ≤ R.locals) (hcl : n ≤ R.cells) (hsl : sl ≤ R.slots) (hz : z < NW) (hw : w z = .inr (ci, fs)) (hcc : vwCl[ci]? = some (C, T, N)) (hs : stk = As.reverse ++ .ref (gr g z) :: rest) (hnp : As.length = np) (hcat : (rest.map fun v => v.category).sum ≤ 8) (hd : decode cc pc = .ok (.invokevirtual idx, 3)) (hq : pc + 3 = q)
    (k : ∀ v w', Φ v w' → JN g R K nL Q q loc (v.toList ++ rest) w' n sl) : JN g R K nL Q pc loc stk w n sl := by
  obtain ⟨p, e, s, m, args, below, meth, c⟩ := K
  obtain ⟨hx, hb, hml, hr, hlk, ho, ht, hD, hSt⟩ := h
  subst hs
  subst hq
  intro H locs ls hP hS hl
  obtain ⟨kz, hkz, hsz⟩ := jl_ix g w hz hw (lv_live hcc)
  obtain ⟨m1, m2, m3, m4, m5⟩ := mo
  have hrun := va_runV (p := p) (l := gL g) (e := e) (R := R) (below := below) (meth := meth) (locs := locs) (cells := n) (slots := sl) (g := F0 m pc ls (As.reverse ++ .ref (gr g z) :: rest)) (As := As) (rest := rest) ⟨hx, hb, hml, ho, ht⟩ hc ⟨callB_of np ht (jtb_in y b n' r' m1) rfl rfl rfl (ht _ m2) (ht _ ml) ⟨m3.1, m3.2, m4⟩ ⟨hfr, by show 8 + (n' + 11) + 40 * d' ≤ R.locals; omega⟩, ht _ mi, ht _ mv⟩ ⟨jPc_blind g _ w, va_recv (q := (C, T, N)) (q0 := kz) hSt.2.1 hP hcc hkz, fun U hU hW => ⟨rfl, hD, by rw [hU]; exact hP, by rw [hU]; exact jSt_to hSt hS hW⟩⟩ rfl hnp hl.1 rfl (lv_room hcat) hd ⟨hcl, hsl⟩
  intro T0 hT X
  obtain ⟨v, st₀, t, T', L, h0, X', hL, e1, e2, ⟨⟨v', w', hv, hΨ, hP1⟩, hz1, hk1⟩, st⟩ := hrun T0 hT X
  cases hv
  rw [h0] at hz1 hk1
  obtain ⟨t2, a1, b1⟩ := k v w' hΨ T'.heap (locs ++ L) ls (by rw [e1]; exact hP1)
    ⟨Nat.le_trans hS.1 (by rw [e1]; exact hz1), fun q h1 h2 => by rw [e1, hk1 q (Nat.lt_of_lt_of_le h1 hS.1) h2]; exact hS.2.1 q h1 h2, fun q hq => by
      rcases List.mem_append.mp hq with h | h
      · exact hS.2.2 q h
      · exact hL q h⟩ hl T' rfl X'
  exact ⟨t2, st t2 a1, b1⟩
end NC
