/-! THE WALKING LAYER: a world is a function from places to cells; J is W with heap, frames and locals hidden. -/
abbrev NW : Nat := 77
abbrev jW : Type := Nat → va_E
abbrev jG : Type := Launch × va_G × (Nat → Nat) × (Nat → Prop) × Nat × ClassId × ClassId × ClassId
abbrev gL (g : jG) : Launch := g.1
abbrev gD (g : jG) : va_G := g.2.1
abbrev gr (g : jG) : Nat → Nat := g.2.2.1
abbrev gA (g : jG) : Nat → Prop := g.2.2.2.1
abbrev gF (g : jG) : Nat := g.2.2.2.2.1
abbrev gI (g : jG) : ClassId := g.2.2.2.2.2.1
abbrev gZ (g : jG) : ClassId := g.2.2.2.2.2.2.1
abbrev gT (g : jG) : ClassId := g.2.2.2.2.2.2.2
/-- a place that holds nothing yet -/
def dedE : va_E := .inr (4, [])
def liveE (e : va_E) : Bool := match e with
  | .inl _ => true
  | .inr o => decide (o.1 < 4)
def jLs (w : jW) : List Nat := (List.range NW).filter fun p => liveE (w p)
def jl (g : jG) (w : jW) : va_W := (jLs w).map fun p => (gr g p, w p)
def jty (g : jG) : List (ClassId × FieldType) := [(gI g, .int), (gZ g, .boolean), (gT g, .object RX1)]
def fpv (j : Nat) : Nat := [0, 13, 26, 130, 234, 338, 442, 455, 468, 481, 494, 507, 520, 533, 546, 559, 572, 585, 598, 611, 624, 637].getD j 0
def jFP (j : Nat) : Value := .int (nI (fpv j))
def jNs (U : State) : Prop := (∀ q ∈ jns, va_Nw (.methodLinkNest q.1 q.2.1 q.2.2.1 q.2.2.2) U) ∧ va_Nw (.fieldLinkNest RX1 79 "TwinPatience" "FIRST_PLACES" "[I" "TwinPatience") U
def jSt (g : jG) (U : State) (H : Heap) : Prop := jNs U ∧ va_K (gD g) vwCl (jty g) U ∧ va_Z "TwinPatience" "FIRST_PLACES" "[I" (.ref (gF g)) (gA g) U H ∧ va_T .int (gF g) 22 jFP (gA g) U H
def jD (g : jG) : Prop := (∀ i j, i < NW → j < NW → gr g i = gr g j → i = j) ∧ ∀ i, i < NW → gA g (gr g i)
def jPc (g : jG) (As : List Value) (w : jW) : Array Value → State → Prop := fun v U => v = As.toArray ∧ jD g ∧ va_P (gD g) vwCl (jl g w) U.heap ∧ jSt g U U.heap
def jQc (g : jG) (Φ : Option Value → jW → Prop) : Array Value → State → Outcome → State → Prop := fun _ st oc t => (∃ v w', oc = .returned v ∧ Φ v w' ∧ va_P (gD g) vwCl (jl g w') t.heap) ∧ va_F (gA g) st t
def jrm (d : Nat) : Room := { frames := d, cells := 0, slots := 0, locals := 40 * d }
def Con (g : jG) (d : Nat) (y : MethodName) (b : ByteArray) (n : Nat) (r : Option FieldType) (As : List Value) (w : jW) (Φ : Option Value → jW → Prop) : Prop :=
  Met (gL g) y (.code y b n r :: jtb) (jrm d) (jPc g As w) (jQc g Φ) 0 0 (gA g)
abbrev ConI (g : jG) (d : Nat) (y : MethodName) (b : ByteArray) (n : Nat) (r : Option FieldType) (As : List Value) (w : jW) (ψ : Int32 → jW → Prop) : Prop := Con g d y b n r As w (fun v w' => ∃ x, v = some (.int x) ∧ ψ x w')
abbrev ConL (g : jG) (d : Nat) (y : MethodName) (b : ByteArray) (n : Nat) (r : Option FieldType) (As : List Value) (w : jW) (ψ : Int64 → jW → Prop) : Prop := Con g d y b n r As w (fun v w' => ∃ x, v = some (.long x) ∧ ψ x w')
abbrev ConV (g : jG) (d : Nat) (y : MethodName) (b : ByteArray) (n : Nat) (r : Option FieldType) (As : List Value) (w : jW) (ψ : jW → Prop) : Prop := Con g d y b n r As w (fun v w' => v = none ∧ ψ w')
abbrev ConR (g : jG) (d : Nat) (y : MethodName) (b : ByteArray) (n : Nat) (r : Option FieldType) (As : List Value) (w : jW) (ψ : Value → jW → Prop) : Prop := Con g d y b n r As w (fun v w' => ∃ x, v = some x ∧ ψ x w')
abbrev jK : Type := Program × Env × State × MethodId × Array Value × List Frame × Method × Code
def J (g : jG) (d : Nat) (K : jK) (nL : Nat) (Φ : Option Value → jW → Prop) (pc : Nat) (loc : List (Nat × Value)) (stk : List Value) (w : jW) : Prop :=
  match K with
  | (p, e, s, m, args, below, meth, c) => ∀ (H : Heap) (locs : List Loc) (ls : Array Slot), va_P (gD g) vwCl (jl g w) H → va_S (gA g) s.heap H locs → lv_has ls nL loc →
      W p (gL g) e (jrm d) s m args below meth c H locs 0 0 (MQ below (jQc g Φ) args s 0 0 (gA g)) (F0 m pc ls stk)
def jH (g : jG) (K : jK) (own : String) (cc : ByteArray) (nL : Nat) (r : Option FieldType) : Prop :=
  match K with
  | (p, e, s, m, args, below, meth, c) => p.tables.exec = Jvm.exec ∧ c.code = cc ∧ c.maxLocals = nL ∧ meth.sig.returnType = r ∧ meth.locks = false ∧ s.vm.findClass own = some m.cls ∧ (∀ w ∈ jtb, w.before args s = true) ∧ jD g ∧ jSt g s s.heap
def MOK (y : MethodName) (b : ByteArray) (n : Nat) (r : Option FieldType) (np : Nat) : Prop :=
  Cond.code y b n r ∈ jtb ∧ Cond.initialized y.cls ∈ jtb ∧ (y.cls ≠ "java/lang/invoke/MethodHandle" ∧ y.cls ≠ "java/lang/invoke/VarHandle") ∧ (parseMethodDescriptor y.desc).map (fun d => d.parameters.length) = some np ∧ n ≤ 21
def lst (i : Nat) (v : Value) (loc : List (Nat × Value)) : List (Nat × Value) := (i, v) :: loc.filter (fun q => !(q.1 == i) && !(q.1 + 1 == i && q.2.category == 2))
def lst2 (i : Nat) (v : Value) (loc : List (Nat × Value)) : List (Nat × Value) := (i, v) :: loc.filter (fun q => !(q.1 == i) && (!(q.1 == i + 1) && !(q.1 + 1 == i && q.2.category == 2)))
theorem jLs_nd (w : jW) : (jLs w).Nodup := List.Pairwise.filter _ List.nodup_range
theorem jLs_in (w : jW) {p : Nat} (h : p < NW) (hl : liveE (w p) = true) : p ∈ jLs w := List.mem_filter.mpr ⟨List.mem_range.mpr h, hl⟩
theorem jLs_of {w : jW} {p : Nat} (h : p ∈ jLs w) : p < NW ∧ liveE (w p) = true := ⟨List.mem_range.mp (List.mem_filter.mp h).1, (List.mem_filter.mp h).2⟩
theorem jLs_inj (w : jW) {i j : Nat} {p : Nat} (hi : (jLs w)[i]? = some p) (hj : (jLs w)[j]? = some p) : i = j :=
  (List.getElem?_inj (List.getElem?_eq_some_iff.mp hi).1 (jLs_nd w)).mp (hi.trans hj.symm)
theorem jl_ix (g : jG) (w : jW) {p : Nat} {c0 : va_E} (h : p < NW) (hw : w p = c0) (hl : liveE c0 = true) : ∃ k : Nat, (jl g w)[k]? = some (gr g p, c0) ∧ ∀ c : va_E, liveE c = true → (jl g w).set k (gr g p, c) = jl g (va_up w p c) := by
  subst hw
  obtain ⟨k, hk⟩ := List.getElem?_of_mem (jLs_in w h hl)
  refine ⟨k, by unfold jl; rw [List.getElem?_map, hk]; rfl, fun c hc => ?_⟩
  have e : jLs (va_up w p c) = jLs w := by
    unfold jLs
    refine List.filter_congr (fun q _ => ?_)
    by_cases hq : q = p
    · subst hq; simp [va_up, hc, hl]
    · simp [va_up, hq]
  unfold jl
  rw [e]
  apply List.ext_getElem?
  intro i
  rw [List.getElem?_set, List.getElem?_map, List.getElem?_map, List.length_map]
  by_cases hi : k = i
  · subst hi
    have hlt : k < (jLs w).length := (List.getElem?_eq_some_iff.mp hk).1
    rw [if_pos rfl, if_pos hlt, hk]
    simp [va_up]
  · rw [if_neg hi]
    cases hx : (jLs w)[i]? with
    | none => rfl
    | some q =>
      have hq : ¬ q = p := fun z => hi (by subst z; exact jLs_inj w hk hx)
      simp [va_up, hq]
theorem lv_live {ci : Nat} {x : vw_C} {fs : List Value} (h : vwCl[ci]? = some x) : liveE (.inr (ci, fs)) = true := by
  have h1 : ci < vwCl.length := (List.getElem?_eq_some_iff.mp h).1
  have h2 : ci < 4 := h1
  simp [liveE, h2]
theorem jl_P {D : va_G} {cl : List vw_C} {g : jG} {w : jW} {H : Heap} : va_P D cl (jl g w) H ↔ ∀ p, p < NW → liveE (w p) = true → va_at D cl (gr g p, w p) H := by
  constructor
  · intro h p hp hl
    obtain ⟨k, hk, -⟩ := jl_ix g w hp rfl hl
    exact h k _ hk
  · intro h k x hx
    unfold jl at hx
    rw [List.getElem?_map] at hx
    cases hy : (jLs w)[k]? with
    | none => rw [hy] at hx; cases hx
    | some p =>
      rw [hy] at hx
      cases hx
      obtain ⟨h1, h2⟩ := jLs_of (List.mem_of_getElem? hy)
      exact h p h1 h2
theorem jl_D {g : jG} (h : jD g) (w : jW) : va_D (gA g) (jl g w) := by
  constructor
  · intro i j p q hi hj hpq
    unfold jl at hi hj
    rw [List.getElem?_map] at hi hj
    cases hx : (jLs w)[i]? with
    | none => rw [hx] at hi; cases hi
    | some a =>
      cases hy : (jLs w)[j]? with
      | none => rw [hy] at hj; cases hj
      | some b =>
        rw [hx] at hi; rw [hy] at hj
        cases hi; cases hj
        have hab := h.1 a b (jLs_of (List.mem_of_getElem? hx)).1 (jLs_of (List.mem_of_getElem? hy)).1 hpq
        subst hab
        exact jLs_inj w hx hy
  · intro k q hk
    unfold jl at hk
    rw [List.getElem?_map] at hk
    cases hx : (jLs w)[k]? with
    | none => rw [hx] at hk; cases hk
    | some a =>
      rw [hx] at hk
      cases hk
      exact h.2 a (jLs_of (List.mem_of_getElem? hx)).1
theorem tbl_good : ∀ w ∈ jtb, goodWord w = true := fun _ h => (List.mem_filter.mp h).2
section JJ
variable {g : jG} {d : Nat} {K : jK} {own : String} {cc : ByteArray} {nL : Nat} {r : Option FieldType} {Φ : Option Value → jW → Prop} {pc q : Nat} {loc : List (Nat × Value)} {stk rest : List Value} {w : jW}
-- constants, locals
theorem j_iconst (h : jH g K own cc nL r) {n : Int} (v : Int32) (hd : decode cc pc = .ok (.iconst n, 1)) (hq : pc + 1 = q) (hv : Int32.ofInt n = v) (k : J g d K nL Φ q loc (.int v :: rest) w) : J g d K nL Φ pc loc rest w := by
  obtain ⟨p, e, s, m, args, below, meth, c⟩ := K
  obtain ⟨hx, hb, -⟩ := h
  subst hq
  intro H locs ls hP hS hl
  exact lv_iconst hx hb hd hv (k H locs ls hP hS hl)
theorem j_bipush (h : jH g K own cc nL r) {n : Int} (v : Int32) (hd : decode cc pc = .ok (.bipush n, 2)) (hq : pc + 2 = q) (hv : (Int8.ofInt n).toInt32 = v) (k : J g d K nL Φ q loc (.int v :: rest) w) : J g d K nL Φ pc loc rest w := by
  obtain ⟨p, e, s, m, args, below, meth, c⟩ := K
  obtain ⟨hx, hb, -⟩ := h
  subst hq
  intro H locs ls hP hS hl
  exact lv_bipush hx hb hd hv (k H locs ls hP hS hl)
theorem j_sipush (h : jH g K own cc nL r) {n : Int} (v : Int32) (hd : decode cc pc = .ok (.sipush n, 3)) (hq : pc + 3 = q) (hv : (Int16.ofInt n).toInt32 = v) (k : J g d K nL Φ q loc (.int v :: rest) w) : J g d K nL Φ pc loc rest w := by
  obtain ⟨p, e, s, m, args, below, meth, c⟩ := K
  obtain ⟨hx, hb, -⟩ := h
  subst hq
  intro H locs ls hP hS hl
  exact lv_sipush hx hb hd hv (k H locs ls hP hS hl)
theorem j_ldc2 (h : jH g K own cc nL r) {idx : Nat} {v : Int64} (hm : Cond.constantLong own idx v ∈ jtb) (hd : decode cc pc = .ok (.ldc2_w idx, 3)) (hq : pc + 3 = q) (k : J g d K nL Φ q loc (.long v :: rest) w) : J g d K nL Φ pc loc rest w := by
  obtain ⟨p, e, s, m, args, below, meth, c⟩ := K
  obtain ⟨hx, hb, -, -, -, ho, ht, -⟩ := h
  subst hq
  intro H locs ls hP hS hl
  exact lv_ldc2 hx hb ho (ht _ hm) hd (k H locs ls hP hS hl)
theorem j_lconst (h : jH g K own cc nL r) {n : Fin 2} (v : Int64) (hd : decode cc pc = .ok (.lconst n, 1)) (hq : pc + 1 = q) (hv : Int64.ofNat (n : Nat) = v) (k : J g d K nL Φ q loc (.long v :: rest) w) : J g d K nL Φ pc loc rest w := by
  obtain ⟨p, e, s, m, args, below, meth, c⟩ := K
  obtain ⟨hx, hb, -⟩ := h
  subst hq
  intro H locs ls hP hS hl
  exact lv_lconst hx hb hd hv (k H locs ls hP hS hl)
theorem j_null (h : jH g K own cc nL r) (hd : decode cc pc = .ok (.aconst_null, 1)) (hq : pc + 1 = q) (k : J g d K nL Φ q loc (.null :: rest) w) : J g d K nL Φ pc loc rest w := by
  obtain ⟨p, e, s, m, args, below, meth, c⟩ := K
  obtain ⟨hx, hb, -⟩ := h
  subst hq
  intro H locs ls hP hS hl
  exact lv_null hx hb hd (k H locs ls hP hS hl)
theorem j_iload_n (h : jH g K own cc nL r) (z : Nat) {i : Fin 4} {x : Int32} (hd : decode cc pc = .ok (.iload_n i, 1)) (hq : pc + 1 = q) (hz : loc[z]? = some ((i : Nat), .int x)) (k : J g d K nL Φ q loc (.int x :: rest) w) : J g d K nL Φ pc loc rest w := by
  obtain ⟨p, e, s, m, args, below, meth, c⟩ := K
  obtain ⟨hx, hb, -⟩ := h
  subst hq
  intro H locs ls hP hS hl
  exact lv_iload_n hx hb hd rfl (lv_at hl z hz) (k H locs ls hP hS hl)
theorem j_iload (h : jH g K own cc nL r) (z : Nat) {i : Nat} {x : Int32} (hd : decode cc pc = .ok (.iload i, 2)) (hq : pc + 2 = q) (hz : loc[z]? = some (i, .int x)) (k : J g d K nL Φ q loc (.int x :: rest) w) : J g d K nL Φ pc loc rest w := by
  obtain ⟨p, e, s, m, args, below, meth, c⟩ := K
  obtain ⟨hx, hb, -⟩ := h
  subst hq
  intro H locs ls hP hS hl
  exact lv_iload hx hb hd (lv_at hl z hz) (k H locs ls hP hS hl)
theorem j_lload_n (h : jH g K own cc nL r) (z : Nat) {i : Fin 4} {x : Int64} (hd : decode cc pc = .ok (.lload_n i, 1)) (hq : pc + 1 = q) (hz : loc[z]? = some ((i : Nat), .long x)) (k : J g d K nL Φ q loc (.long x :: rest) w) : J g d K nL Φ pc loc rest w := by
  obtain ⟨p, e, s, m, args, below, meth, c⟩ := K
  obtain ⟨hx, hb, -⟩ := h
  subst hq
  intro H locs ls hP hS hl
  exact lv_lload_n hx hb hd rfl (lv_at hl z hz) (k H locs ls hP hS hl)
theorem j_lload (h : jH g K own cc nL r) (z : Nat) {i : Nat} {x : Int64} (hd : decode cc pc = .ok (.lload i, 2)) (hq : pc + 2 = q) (hz : loc[z]? = some (i, .long x)) (k : J g d K nL Φ q loc (.long x :: rest) w) : J g d K nL Φ pc loc rest w := by
  obtain ⟨p, e, s, m, args, below, meth, c⟩ := K
  obtain ⟨hx, hb, -⟩ := h
  subst hq
  intro H locs ls hP hS hl
  exact lv_lload hx hb hd (lv_at hl z hz) (k H locs ls hP hS hl)
theorem j_aload_n (h : jH g K own cc nL r) (z : Nat) {i : Fin 4} {x : Nat} (hd : decode cc pc = .ok (.aload_n i, 1)) (hq : pc + 1 = q) (hz : loc[z]? = some ((i : Nat), .ref x)) (k : J g d K nL Φ q loc (.ref x :: rest) w) : J g d K nL Φ pc loc rest w := by
  obtain ⟨p, e, s, m, args, below, meth, c⟩ := K
  obtain ⟨hx, hb, -⟩ := h
  subst hq
  intro H locs ls hP hS hl
  exact lv_aload_n hx hb hd rfl (lv_at hl z hz) (k H locs ls hP hS hl)
theorem j_istore_n (h : jH g K own cc nL r) {i : Fin 4} {x : Int32} {loc' : List (Nat × Value)} (hd : decode cc pc = .ok (.istore_n i, 1)) (hq : pc + 1 = q) (hn : (i : Nat) < nL) (hl' : lst i (.int x) loc = loc') (k : J g d K nL Φ q loc' rest w) : J g d K nL Φ pc loc (.int x :: rest) w := by
  obtain ⟨p, e, s, m, args, below, meth, c⟩ := K
  obtain ⟨hx, hb, -⟩ := h
  subst hq
  intro H locs ls hP hS hl
  exact lv_istore_n hx hb hd rfl hl hn hl' (fun ls' hl2 => k H locs ls' hP hS hl2)
theorem j_istore (h : jH g K own cc nL r) {i : Nat} {x : Int32} {loc' : List (Nat × Value)} (hd : decode cc pc = .ok (.istore i, 2)) (hq : pc + 2 = q) (hn : i < nL) (hl' : lst i (.int x) loc = loc') (k : J g d K nL Φ q loc' rest w) : J g d K nL Φ pc loc (.int x :: rest) w := by
  obtain ⟨p, e, s, m, args, below, meth, c⟩ := K
  obtain ⟨hx, hb, -⟩ := h
  subst hq
  intro H locs ls hP hS hl
  exact lv_istore hx hb hd hl hn hl' (fun ls' hl2 => k H locs ls' hP hS hl2)
theorem j_lstore_n (h : jH g K own cc nL r) {i : Fin 4} {x : Int64} {loc' : List (Nat × Value)} (hd : decode cc pc = .ok (.lstore_n i, 1)) (hq : pc + 1 = q) (hn : (i : Nat) + 1 < nL) (hl' : lst2 i (.long x) loc = loc') (k : J g d K nL Φ q loc' rest w) : J g d K nL Φ pc loc (.long x :: rest) w := by
  obtain ⟨p, e, s, m, args, below, meth, c⟩ := K
  obtain ⟨hx, hb, -⟩ := h
  subst hq
  intro H locs ls hP hS hl
  exact lv_lstore_n hx hb hd rfl hl hn hl' (fun ls' hl2 => k H locs ls' hP hS hl2)
theorem j_lstore (h : jH g K own cc nL r) {i : Nat} {x : Int64} {loc' : List (Nat × Value)} (hd : decode cc pc = .ok (.lstore i, 2)) (hq : pc + 2 = q) (hn : i + 1 < nL) (hl' : lst2 i (.long x) loc = loc') (k : J g d K nL Φ q loc' rest w) : J g d K nL Φ pc loc (.long x :: rest) w := by
  obtain ⟨p, e, s, m, args, below, meth, c⟩ := K
  obtain ⟨hx, hb, -⟩ := h
  subst hq
  intro H locs ls hP hS hl
  exact lv_lstore hx hb hd hl hn hl' (fun ls' hl2 => k H locs ls' hP hS hl2)
theorem j_iinc (h : jH g K own cc nL r) (z : Nat) {i : Nat} {n : Int} {x : Int32} (v : Int32) {loc' : List (Nat × Value)} (hd : decode cc pc = .ok (.iinc i n, 3)) (hq : pc + 3 = q) (hz : loc[z]? = some (i, .int x)) (hv : x + Int32.ofInt n = v) (hn : i < nL) (hl' : lst i (.int v) loc = loc') (k : J g d K nL Φ q loc' stk w) : J g d K nL Φ pc loc stk w := by
  obtain ⟨p, e, s, m, args, below, meth, c⟩ := K
  obtain ⟨hx, hb, -⟩ := h
  subst hq
  intro H locs ls hP hS hl
  exact lv_iinc hx hb hd hl hz hv hn hl' (fun ls' hl2 => k H locs ls' hP hS hl2)
theorem j_iadd (h : jH g K own cc nL r) {x y : Int32} (hd : decode cc pc = .ok (.iadd, 1)) (hq : pc + 1 = q) (k : J g d K nL Φ q loc (.int (x + y) :: rest) w) : J g d K nL Φ pc loc (.int y :: .int x :: rest) w := by
  obtain ⟨p, e, s, m, args, below, meth, c⟩ := K
  obtain ⟨hx, hb, -⟩ := h
  subst hq
  intro H locs ls hP hS hl
  exact lv_iadd hx hb hd (k H locs ls hP hS hl)

theorem j_isub (h : jH g K own cc nL r) {x y : Int32} (hd : decode cc pc = .ok (.isub, 1)) (hq : pc + 1 = q) (k : J g d K nL Φ q loc (.int (x - y) :: rest) w) : J g d K nL Φ pc loc (.int y :: .int x :: rest) w := by
  obtain ⟨p, e, s, m, args, below, meth, c⟩ := K
  obtain ⟨hx, hb, -⟩ := h
  subst hq
  intro H locs ls hP hS hl
  exact lv_isub hx hb hd (k H locs ls hP hS hl)

theorem j_imul (h : jH g K own cc nL r) {x y : Int32} (hd : decode cc pc = .ok (.imul, 1)) (hq : pc + 1 = q) (k : J g d K nL Φ q loc (.int (x * y) :: rest) w) : J g d K nL Φ pc loc (.int y :: .int x :: rest) w := by
  obtain ⟨p, e, s, m, args, below, meth, c⟩ := K
  obtain ⟨hx, hb, -⟩ := h
  subst hq
  intro H locs ls hP hS hl
  exact lv_imul hx hb hd (k H locs ls hP hS hl)

theorem j_iand (h : jH g K own cc nL r) {x y : Int32} (hd : decode cc pc = .ok (.iand, 1)) (hq : pc + 1 = q) (k : J g d K nL Φ q loc (.int (x &&& y) :: rest) w) : J g d K nL Φ pc loc (.int y :: .int x :: rest) w := by
  obtain ⟨p, e, s, m, args, below, meth, c⟩ := K
  obtain ⟨hx, hb, -⟩ := h
  subst hq
  intro H locs ls hP hS hl
  exact lv_iand hx hb hd (k H locs ls hP hS hl)

theorem j_ixor (h : jH g K own cc nL r) {x y : Int32} (hd : decode cc pc = .ok (.ixor, 1)) (hq : pc + 1 = q) (k : J g d K nL Φ q loc (.int (x ^^^ y) :: rest) w) : J g d K nL Φ pc loc (.int y :: .int x :: rest) w := by
  obtain ⟨p, e, s, m, args, below, meth, c⟩ := K
  obtain ⟨hx, hb, -⟩ := h
  subst hq
  intro H locs ls hP hS hl
  exact lv_ixor hx hb hd (k H locs ls hP hS hl)

theorem j_idiv (h : jH g K own cc nL r) {x y : Int32} (hd : decode cc pc = .ok (.idiv, 1)) (hq : pc + 1 = q) (hne : ¬ y = 0) (k : J g d K nL Φ q loc (.int (x / y) :: rest) w) : J g d K nL Φ pc loc (.int y :: .int x :: rest) w := by
  obtain ⟨p, e, s, m, args, below, meth, c⟩ := K
  obtain ⟨hx, hb, -⟩ := h
  subst hq
  intro H locs ls hP hS hl
  exact lv_idiv hx hb hd hne (k H locs ls hP hS hl)

theorem j_irem (h : jH g K own cc nL r) {x y : Int32} (hd : decode cc pc = .ok (.irem, 1)) (hq : pc + 1 = q) (hne : ¬ y = 0) (k : J g d K nL Φ q loc (.int (x - x / y * y) :: rest) w) : J g d K nL Φ pc loc (.int y :: .int x :: rest) w := by
  obtain ⟨p, e, s, m, args, below, meth, c⟩ := K
  obtain ⟨hx, hb, -⟩ := h
  subst hq
  intro H locs ls hP hS hl
  exact lv_irem hx hb hd hne (k H locs ls hP hS hl)

theorem j_ladd (h : jH g K own cc nL r) {x y : Int64} (hd : decode cc pc = .ok (.ladd, 1)) (hq : pc + 1 = q) (k : J g d K nL Φ q loc (.long (x + y) :: rest) w) : J g d K nL Φ pc loc (.long y :: .long x :: rest) w := by
  obtain ⟨p, e, s, m, args, below, meth, c⟩ := K
  obtain ⟨hx, hb, -⟩ := h
  subst hq
  intro H locs ls hP hS hl
  exact lv_ladd hx hb hd (k H locs ls hP hS hl)

theorem j_lmul (h : jH g K own cc nL r) {x y : Int64} (hd : decode cc pc = .ok (.lmul, 1)) (hq : pc + 1 = q) (k : J g d K nL Φ q loc (.long (x * y) :: rest) w) : J g d K nL Φ pc loc (.long y :: .long x :: rest) w := by
  obtain ⟨p, e, s, m, args, below, meth, c⟩ := K
  obtain ⟨hx, hb, -⟩ := h
  subst hq
  intro H locs ls hP hS hl
  exact lv_lmul hx hb hd (k H locs ls hP hS hl)

theorem j_land (h : jH g K own cc nL r) {x y : Int64} (hd : decode cc pc = .ok (.land, 1)) (hq : pc + 1 = q) (k : J g d K nL Φ q loc (.long (x &&& y) :: rest) w) : J g d K nL Φ pc loc (.long y :: .long x :: rest) w := by
  obtain ⟨p, e, s, m, args, below, meth, c⟩ := K
  obtain ⟨hx, hb, -⟩ := h
  subst hq
  intro H locs ls hP hS hl
  exact lv_land hx hb hd (k H locs ls hP hS hl)

theorem j_lor (h : jH g K own cc nL r) {x y : Int64} (hd : decode cc pc = .ok (.lor, 1)) (hq : pc + 1 = q) (k : J g d K nL Φ q loc (.long (x ||| y) :: rest) w) : J g d K nL Φ pc loc (.long y :: .long x :: rest) w := by
  obtain ⟨p, e, s, m, args, below, meth, c⟩ := K
  obtain ⟨hx, hb, -⟩ := h
  subst hq
  intro H locs ls hP hS hl
  exact lv_lor hx hb hd (k H locs ls hP hS hl)

theorem j_ldiv (h : jH g K own cc nL r) {x y : Int64} (hd : decode cc pc = .ok (.ldiv, 1)) (hq : pc + 1 = q) (hne : ¬ y = 0) (k : J g d K nL Φ q loc (.long (x / y) :: rest) w) : J g d K nL Φ pc loc (.long y :: .long x :: rest) w := by
  obtain ⟨p, e, s, m, args, below, meth, c⟩ := K
  obtain ⟨hx, hb, -⟩ := h
  subst hq
  intro H locs ls hP hS hl
  exact lv_ldiv hx hb hd hne (k H locs ls hP hS hl)

theorem j_lrem (h : jH g K own cc nL r) {x y : Int64} (hd : decode cc pc = .ok (.lrem, 1)) (hq : pc + 1 = q) (hne : ¬ y = 0) (k : J g d K nL Φ q loc (.long (x - x / y * y) :: rest) w) : J g d K nL Φ pc loc (.long y :: .long x :: rest) w := by
  obtain ⟨p, e, s, m, args, below, meth, c⟩ := K
  obtain ⟨hx, hb, -⟩ := h
  subst hq
  intro H locs ls hP hS hl
  exact lv_lrem hx hb hd hne (k H locs ls hP hS hl)

theorem j_ineg (h : jH g K own cc nL r) {x : Int32} (hd : decode cc pc = .ok (.ineg, 1)) (hq : pc + 1 = q) (k : J g d K nL Φ q loc (.int (-x) :: rest) w) : J g d K nL Φ pc loc (.int x :: rest) w := by
  obtain ⟨p, e, s, m, args, below, meth, c⟩ := K
  obtain ⟨hx, hb, -⟩ := h
  subst hq
  intro H locs ls hP hS hl
  exact lv_ineg hx hb hd (k H locs ls hP hS hl)

theorem j_i2l (h : jH g K own cc nL r) {x : Int32} (hd : decode cc pc = .ok (.i2l, 1)) (hq : pc + 1 = q) (k : J g d K nL Φ q loc (.long x.toInt64 :: rest) w) : J g d K nL Φ pc loc (.int x :: rest) w := by
  obtain ⟨p, e, s, m, args, below, meth, c⟩ := K
  obtain ⟨hx, hb, -⟩ := h
  subst hq
  intro H locs ls hP hS hl
  exact lv_i2l hx hb hd rfl (k H locs ls hP hS hl)

theorem j_l2i (h : jH g K own cc nL r) {x : Int64} (hd : decode cc pc = .ok (.l2i, 1)) (hq : pc + 1 = q) (k : J g d K nL Φ q loc (.int x.toInt32 :: rest) w) : J g d K nL Φ pc loc (.long x :: rest) w := by
  obtain ⟨p, e, s, m, args, below, meth, c⟩ := K
  obtain ⟨hx, hb, -⟩ := h
  subst hq
  intro H locs ls hP hS hl
  exact lv_l2i hx hb hd rfl (k H locs ls hP hS hl)

theorem j_lushr (h : jH g K own cc nL r) {x : Int64} {y : Int32} (hd : decode cc pc = .ok (.lushr, 1)) (hq : pc + 1 = q) (k : J g d K nL Φ q loc (.long (x.toUInt64 >>> (y.toInt64.toUInt64 &&& Int64.toUInt64 63)).toInt64 :: rest) w) : J g d K nL Φ pc loc (.int y :: .long x :: rest) w := by
  obtain ⟨p, e, s, m, args, below, meth, c⟩ := K
  obtain ⟨hx, hb, -⟩ := h
  subst hq
  intro H locs ls hP hS hl
  exact lv_lushr hx hb hd rfl (k H locs ls hP hS hl)

theorem j_lcmp (h : jH g K own cc nL r) {x y : Int64} (hd : decode cc pc = .ok (.lcmp, 1)) (hq : pc + 1 = q) (k : J g d K nL Φ q loc (.int (lg_cmp x y) :: rest) w) : J g d K nL Φ pc loc (.long y :: .long x :: rest) w := by
  obtain ⟨p, e, s, m, args, below, meth, c⟩ := K
  obtain ⟨hx, hb, -⟩ := h
  subst hq
  intro H locs ls hP hS hl
  exact W.lcmp hx hb hd (k H locs ls hP hS hl)

theorem j_dup (h : jH g K own cc nL r) {v : Value} (hd : decode cc pc = .ok (.dup, 1)) (hq : pc + 1 = q) (hv : v.category = 1) (k : J g d K nL Φ q loc (v :: v :: rest) w) : J g d K nL Φ pc loc (v :: rest) w := by
  obtain ⟨p, e, s, m, args, below, meth, c⟩ := K
  obtain ⟨hx, hb, -⟩ := h
  subst hq
  intro H locs ls hP hS hl
  exact lv_dup hx hb hd hv (k H locs ls hP hS hl)

theorem j_pop (h : jH g K own cc nL r) {v : Value} (hd : decode cc pc = .ok (.pop, 1)) (hq : pc + 1 = q) (hv : v.category = 1) (k : J g d K nL Φ q loc rest w) : J g d K nL Φ pc loc (v :: rest) w := by
  obtain ⟨p, e, s, m, args, below, meth, c⟩ := K
  obtain ⟨hx, hb, -⟩ := h
  subst hq
  intro H locs ls hP hS hl
  exact lv_pop hx hb hd hv (k H locs ls hP hS hl)

theorem j_dup2 (h : jH g K own cc nL r) {u v : Value} (hd : decode cc pc = .ok (.dup2, 1)) (hq : pc + 1 = q) (hu : u.category = 1) (hv : v.category = 1) (k : J g d K nL Φ q loc (u :: v :: u :: v :: rest) w) : J g d K nL Φ pc loc (u :: v :: rest) w := by
  obtain ⟨p, e, s, m, args, below, meth, c⟩ := K
  obtain ⟨hx, hb, -⟩ := h
  subst hq
  intro H locs ls hP hS hl
  exact lv_dup2_11 hx hb hd hu hv (k H locs ls hP hS hl)

theorem j_if_eq (h : jH g K own cc nL r) {x : Int32} {off : Int} {tgt : Nat} (hd : decode cc pc = .ok (.ifCond .eq off, 3)) (hq : pc + 3 = q) (ht : (pc : Int) + off = (tgt : Int)) (kt : x = 0 → J g d K nL Φ tgt loc rest w) (kf : ¬ x = 0 → J g d K nL Φ q loc rest w) : J g d K nL Φ pc loc (.int x :: rest) w := by
  obtain ⟨p, e, s, m, args, below, meth, c⟩ := K
  obtain ⟨hx, hb, -⟩ := h
  subst hq
  intro H locs ls hP hS hl
  exact lv_if_eq hx hb hd ht (fun z => kt z H locs ls hP hS hl) (fun z => kf z H locs ls hP hS hl)

theorem j_icmp_eq (h : jH g K own cc nL r) {x y : Int32} {off : Int} {tgt : Nat} (hd : decode cc pc = .ok (.if_icmp .eq off, 3)) (hq : pc + 3 = q) (ht : (pc : Int) + off = (tgt : Int)) (kt : x = y → J g d K nL Φ tgt loc rest w) (kf : ¬ x = y → J g d K nL Φ q loc rest w) : J g d K nL Φ pc loc (.int y :: .int x :: rest) w := by
  obtain ⟨p, e, s, m, args, below, meth, c⟩ := K
  obtain ⟨hx, hb, -⟩ := h
  subst hq
  intro H locs ls hP hS hl
  exact lv_icmp_eq hx hb hd ht (fun z => kt z H locs ls hP hS hl) (fun z => kf z H locs ls hP hS hl)

theorem j_if_ne (h : jH g K own cc nL r) {x : Int32} {off : Int} {tgt : Nat} (hd : decode cc pc = .ok (.ifCond .ne off, 3)) (hq : pc + 3 = q) (ht : (pc : Int) + off = (tgt : Int)) (kt : ¬ x = 0 → J g d K nL Φ tgt loc rest w) (kf : x = 0 → J g d K nL Φ q loc rest w) : J g d K nL Φ pc loc (.int x :: rest) w := by
  obtain ⟨p, e, s, m, args, below, meth, c⟩ := K
  obtain ⟨hx, hb, -⟩ := h
  subst hq
  intro H locs ls hP hS hl
  exact lv_if_ne hx hb hd ht (fun z => kt z H locs ls hP hS hl) (fun z => kf z H locs ls hP hS hl)

theorem j_icmp_ne (h : jH g K own cc nL r) {x y : Int32} {off : Int} {tgt : Nat} (hd : decode cc pc = .ok (.if_icmp .ne off, 3)) (hq : pc + 3 = q) (ht : (pc : Int) + off = (tgt : Int)) (kt : ¬ x = y → J g d K nL Φ tgt loc rest w) (kf : x = y → J g d K nL Φ q loc rest w) : J g d K nL Φ pc loc (.int y :: .int x :: rest) w := by
  obtain ⟨p, e, s, m, args, below, meth, c⟩ := K
  obtain ⟨hx, hb, -⟩ := h
  subst hq
  intro H locs ls hP hS hl
  exact lv_icmp_ne hx hb hd ht (fun z => kt z H locs ls hP hS hl) (fun z => kf z H locs ls hP hS hl)

theorem j_if_lt (h : jH g K own cc nL r) {x : Int32} {off : Int} {tgt : Nat} (hd : decode cc pc = .ok (.ifCond .lt off, 3)) (hq : pc + 3 = q) (ht : (pc : Int) + off = (tgt : Int)) (kt : x < 0 → J g d K nL Φ tgt loc rest w) (kf : ¬ x < 0 → J g d K nL Φ q loc rest w) : J g d K nL Φ pc loc (.int x :: rest) w := by
  obtain ⟨p, e, s, m, args, below, meth, c⟩ := K
  obtain ⟨hx, hb, -⟩ := h
  subst hq
  intro H locs ls hP hS hl
  exact lv_if_lt hx hb hd ht (fun z => kt z H locs ls hP hS hl) (fun z => kf z H locs ls hP hS hl)

theorem j_icmp_lt (h : jH g K own cc nL r) {x y : Int32} {off : Int} {tgt : Nat} (hd : decode cc pc = .ok (.if_icmp .lt off, 3)) (hq : pc + 3 = q) (ht : (pc : Int) + off = (tgt : Int)) (kt : x < y → J g d K nL Φ tgt loc rest w) (kf : ¬ x < y → J g d K nL Φ q loc rest w) : J g d K nL Φ pc loc (.int y :: .int x :: rest) w := by
  obtain ⟨p, e, s, m, args, below, meth, c⟩ := K
  obtain ⟨hx, hb, -⟩ := h
  subst hq
  intro H locs ls hP hS hl
  exact lv_icmp_lt hx hb hd ht (fun z => kt z H locs ls hP hS hl) (fun z => kf z H locs ls hP hS hl)

theorem j_if_ge (h : jH g K own cc nL r) {x : Int32} {off : Int} {tgt : Nat} (hd : decode cc pc = .ok (.ifCond .ge off, 3)) (hq : pc + 3 = q) (ht : (pc : Int) + off = (tgt : Int)) (kt : 0 ≤ x → J g d K nL Φ tgt loc rest w) (kf : ¬ 0 ≤ x → J g d K nL Φ q loc rest w) : J g d K nL Φ pc loc (.int x :: rest) w := by
  obtain ⟨p, e, s, m, args, below, meth, c⟩ := K
  obtain ⟨hx, hb, -⟩ := h
  subst hq
  intro H locs ls hP hS hl
  exact lv_if_ge hx hb hd ht (fun z => kt z H locs ls hP hS hl) (fun z => kf z H locs ls hP hS hl)

theorem j_icmp_ge (h : jH g K own cc nL r) {x y : Int32} {off : Int} {tgt : Nat} (hd : decode cc pc = .ok (.if_icmp .ge off, 3)) (hq : pc + 3 = q) (ht : (pc : Int) + off = (tgt : Int)) (kt : y ≤ x → J g d K nL Φ tgt loc rest w) (kf : ¬ y ≤ x → J g d K nL Φ q loc rest w) : J g d K nL Φ pc loc (.int y :: .int x :: rest) w := by
  obtain ⟨p, e, s, m, args, below, meth, c⟩ := K
  obtain ⟨hx, hb, -⟩ := h
  subst hq
  intro H locs ls hP hS hl
  exact lv_icmp_ge hx hb hd ht (fun z => kt z H locs ls hP hS hl) (fun z => kf z H locs ls hP hS hl)

theorem j_if_gt (h : jH g K own cc nL r) {x : Int32} {off : Int} {tgt : Nat} (hd : decode cc pc = .ok (.ifCond .gt off, 3)) (hq : pc + 3 = q) (ht : (pc : Int) + off = (tgt : Int)) (kt : 0 < x → J g d K nL Φ tgt loc rest w) (kf : ¬ 0 < x → J g d K nL Φ q loc rest w) : J g d K nL Φ pc loc (.int x :: rest) w := by
  obtain ⟨p, e, s, m, args, below, meth, c⟩ := K
  obtain ⟨hx, hb, -⟩ := h
  subst hq
  intro H locs ls hP hS hl
  exact lv_if_gt hx hb hd ht (fun z => kt z H locs ls hP hS hl) (fun z => kf z H locs ls hP hS hl)

theorem j_icmp_gt (h : jH g K own cc nL r) {x y : Int32} {off : Int} {tgt : Nat} (hd : decode cc pc = .ok (.if_icmp .gt off, 3)) (hq : pc + 3 = q) (ht : (pc : Int) + off = (tgt : Int)) (kt : y < x → J g d K nL Φ tgt loc rest w) (kf : ¬ y < x → J g d K nL Φ q loc rest w) : J g d K nL Φ pc loc (.int y :: .int x :: rest) w := by
  obtain ⟨p, e, s, m, args, below, meth, c⟩ := K
  obtain ⟨hx, hb, -⟩ := h
  subst hq
  intro H locs ls hP hS hl
  exact lv_icmp_gt hx hb hd ht (fun z => kt z H locs ls hP hS hl) (fun z => kf z H locs ls hP hS hl)

theorem j_if_le (h : jH g K own cc nL r) {x : Int32} {off : Int} {tgt : Nat} (hd : decode cc pc = .ok (.ifCond .le off, 3)) (hq : pc + 3 = q) (ht : (pc : Int) + off = (tgt : Int)) (kt : x ≤ 0 → J g d K nL Φ tgt loc rest w) (kf : ¬ x ≤ 0 → J g d K nL Φ q loc rest w) : J g d K nL Φ pc loc (.int x :: rest) w := by
  obtain ⟨p, e, s, m, args, below, meth, c⟩ := K
  obtain ⟨hx, hb, -⟩ := h
  subst hq
  intro H locs ls hP hS hl
  exact lv_if_le hx hb hd ht (fun z => kt z H locs ls hP hS hl) (fun z => kf z H locs ls hP hS hl)

theorem j_icmp_le (h : jH g K own cc nL r) {x y : Int32} {off : Int} {tgt : Nat} (hd : decode cc pc = .ok (.if_icmp .le off, 3)) (hq : pc + 3 = q) (ht : (pc : Int) + off = (tgt : Int)) (kt : x ≤ y → J g d K nL Φ tgt loc rest w) (kf : ¬ x ≤ y → J g d K nL Φ q loc rest w) : J g d K nL Φ pc loc (.int y :: .int x :: rest) w := by
  obtain ⟨p, e, s, m, args, below, meth, c⟩ := K
  obtain ⟨hx, hb, -⟩ := h
  subst hq
  intro H locs ls hP hS hl
  exact lv_icmp_le hx hb hd ht (fun z => kt z H locs ls hP hS hl) (fun z => kf z H locs ls hP hS hl)

theorem j_goto (h : jH g K own cc nL r) {off : Int} {tgt : Nat} (hd : decode cc pc = .ok (.goto off, 3)) (ht : (pc : Int) + off = (tgt : Int)) (k : J g d K nL Φ tgt loc rest w) : J g d K nL Φ pc loc rest w := by
  obtain ⟨p, e, s, m, args, below, meth, c⟩ := K
  obtain ⟨hx, hb, -⟩ := h
  intro H locs ls hP hS hl
  exact lv_goto hx hb hd ht (k H locs ls hP hS hl)

theorem j_tableIn (h : jH g K own cc nL r) {dflt lo hi : Int} {offs : Array Int} {len : Nat} {x : Int32} {off : Int} {tgt : Nat} (hd : decode cc pc = .ok (.tableswitch dflt lo hi offs, len)) (h1 : ¬ x.toInt < lo) (h2 : ¬ hi < x.toInt) (ho : offs[(x.toInt - lo).toNat]? = some off) (ht : (pc : Int) + off = (tgt : Int)) (k : J g d K nL Φ tgt loc rest w) : J g d K nL Φ pc loc (.int x :: rest) w := by
  obtain ⟨p, e, s, m, args, below, meth, c⟩ := K
  obtain ⟨hx, hb, -⟩ := h
  intro H locs ls hP hS hl
  exact lv_tableIn hx hb hd h1 h2 ho ht (k H locs ls hP hS hl)

theorem j_tableOut (h : jH g K own cc nL r) {dflt lo hi : Int} {offs : Array Int} {len : Nat} {x : Int32} {tgt : Nat} (hd : decode cc pc = .ok (.tableswitch dflt lo hi offs, len)) (h1 : x.toInt < lo ∨ hi < x.toInt) (ht : (pc : Int) + dflt = (tgt : Int)) (k : J g d K nL Φ tgt loc rest w) : J g d K nL Φ pc loc (.int x :: rest) w := by
  obtain ⟨p, e, s, m, args, below, meth, c⟩ := K
  obtain ⟨hx, hb, -⟩ := h
  intro H locs ls hP hS hl
  exact lv_tableOut hx hb hd h1 ht (k H locs ls hP hS hl)

theorem j_lookup (h : jH g K own cc nL r) {dflt : Int} {ps : Array (Int × Int)} {len : Nat} {x : Int32} {off : Int} {tgt : Nat} (hd : decode cc pc = .ok (.lookupswitch dflt ps, len)) (hp : (ps.toList.zip (ps.toList.drop 1)).all (fun (a, next) => a.1 < next.1) = true) (ho : Op.lookupswitch.offset ps.toList dflt x.toInt = off) (ht : (pc : Int) + off = (tgt : Int)) (k : J g d K nL Φ tgt loc rest w) : J g d K nL Φ pc loc (.int x :: rest) w := by
  obtain ⟨p, e, s, m, args, below, meth, c⟩ := K
  obtain ⟨hx, hb, -⟩ := h
  intro H locs ls hP hS hl
  exact lv_lookup hx hb hd hp ho ht (k H locs ls hP hS hl)

theorem j_ifnonnull (h : jH g K own cc nL r) {x : Nat} {off : Int} {tgt : Nat} (hd : decode cc pc = .ok (.ifnonnull off, 3)) (ht : (pc : Int) + off = (tgt : Int)) (k : J g d K nL Φ tgt loc rest w) : J g d K nL Φ pc loc (.ref x :: rest) w := by
  obtain ⟨p, e, s, m, args, below, meth, c⟩ := K
  obtain ⟨hx, hb, -⟩ := h
  intro H locs ls hP hS hl
  exact lv_ifnonnull hx hb hd ht (k H locs ls hP hS hl)

theorem j_ifnull (h : jH g K own cc nL r) {x : Nat} {off : Int} (hd : decode cc pc = .ok (.ifnull off, 3)) (hq : pc + 3 = q) (k : J g d K nL Φ q loc rest w) : J g d K nL Φ pc loc (.ref x :: rest) w := by
  obtain ⟨p, e, s, m, args, below, meth, c⟩ := K
  obtain ⟨hx, hb, -⟩ := h
  subst hq
  intro H locs ls hP hS hl
  exact lv_ifnull hx hb hd (k H locs ls hP hS hl)

theorem j_sub (ks : List Nat) {loc' : List (Nat × Value)} (hl' : lv_pick loc ks = loc') (k : J g d K nL Φ pc loc' stk w) : J g d K nL Φ pc loc stk w := by
  obtain ⟨p, e, s, m, args, below, meth, c⟩ := K
  intro H locs ls hP hS hl
  exact k H locs ls hP hS (lv_sub hl ks hl')
theorem j_stk {stk' : List Value} {w' : jW} (hs : stk = stk') (hw : w = w') (k : J g d K nL Φ pc loc stk' w') : J g d K nL Φ pc loc stk w := by
  subst hs; subst hw; exact k
theorem j_wk {Ψ : Option Value → jW → Prop} (hi : ∀ v w', Ψ v w' → Φ v w') (k : J g d K nL Ψ pc loc stk w) : J g d K nL Φ pc loc stk w := by
  obtain ⟨p, e, s, m, args, below, meth, c⟩ := K
  intro H locs ls hP hS hl T hT X
  obtain ⟨t, a, o, b1, b2, ⟨⟨v, w', c1, c2, c3⟩, c4⟩, c5⟩ := k H locs ls hP hS hl T hT X
  exact ⟨t, a, o, b1, b2, ⟨⟨v, w', c1, hi v w' c2, c3⟩, c4⟩, c5⟩

theorem j_get (h : jH g K own cc nL r) {C : String} {T : u_T} {N ci index z : Nat} {fs : List Value} {v : Value} (hin : ∀ w ∈ u_ws C T N, w ∈ jtb) (hc : vwCl[ci]? = some (C, T, N)) (k0 : Nat) (hk : k0 < N) (hm : Cond.fieldLink own index (T k0).1 (T k0).2.1 (T k0).2.2.1 ∈ jtb) (hz : z < NW) (hw : w z = .inr (ci, fs)) (hv : fs[k0]? = some v) (hd : decode cc pc = .ok (.getfield index, 3)) (hq : pc + 3 = q)
    (k : J g d K nL Φ q loc (v :: rest) w) : J g d K nL Φ pc loc (.ref (gr g z) :: rest) w := by
  obtain ⟨p, e, s, m, args, below, meth, c⟩ := K
  obtain ⟨hx, hb, -, -, -, ho, ht, hD, hSt⟩ := h
  subst hq
  intro H locs ls hP hS hl
  obtain ⟨kz, hkz, hsz⟩ := jl_ix g w hz hw (lv_live hc)
  exact va_get hx hb ht hin ho hSt.2.1 hP kz hkz hc k0 hk (ht _ hm) (fun _ h9 => h9) hv hd (k H locs ls hP hS hl)
theorem j_put (h : jH g K own cc nL r) {C : String} {T : u_T} {N ci index z : Nat} {fs : List Value} {v : Value} {ty : FieldType} (hin : ∀ w ∈ u_ws C T N, w ∈ jtb) (hc : vwCl[ci]? = some (C, T, N)) {ty0 : Nat → FieldType} (hty : ∀ k, k < N → parseFieldDescriptor (T k).2.2.1 = some (ty0 k)) (hnm : ∀ a, a < N → ∀ b, b < N → a ≠ b → (T a).2.1 ≠ (T b).2.1) (k0 : Nat) (hk : k0 < N) (hm : Cond.fieldLink own index (T k0).1 (T k0).2.1 (T k0).2.2.1 ∈ jtb) (hfin : (T k0).2.2.2 = false) (hty0 : ty0 k0 = ty) (hn : narrow ty v = v) (hfit : fits ty v = true) (hz : z < NW) (hw : w z = .inr (ci, fs)) (hlen : k0 < fs.length) (hd : decode cc pc = .ok (.putfield index, 3)) (hq : pc + 3 = q)
    (k : J g d K nL Φ q loc rest (va_up w z (.inr (ci, fs.set k0 v)))) : J g d K nL Φ pc loc (v :: .ref (gr g z) :: rest) w := by
  obtain ⟨p, e, s, m, args, below, meth, c⟩ := K
  obtain ⟨hx, hb, -, -, -, ho, ht, hD, hSt⟩ := h
  subst hq
  intro H locs ls hP hS hl
  obtain ⟨kz, hkz, hsz⟩ := jl_ix g w hz hw (lv_live hc)
  refine va_put hx hb ht hin ty0 hty hnm ho hSt.2.1 hP (jl_D hD w) hS kz hkz hc k0 hk (ht _ hm) (fun _ h9 => h9) hfin (by rw [hty k0 hk, hty0]) hn hfit hlen hd (fun H1 locs1 hP1 hD1 hS1 => ?_)
  rw [hsz _ (lv_live hc)] at hP1
  exact k H1 locs1 ls hP1 hS1 hl
theorem j_iald (h : jH g K own cc nL r) {z n : Nat} {f : Nat → Int32} {i : Int32} (hz : z < NW) (hw : w z = .inl (gI g, n, .inl f)) (hi : vp_in i n) (hd : decode cc pc = .ok (.iaload, 1)) (hq : pc + 1 = q)
    (k : J g d K nL Φ q loc (.int (f i.toNatClampNeg) :: rest) w) : J g d K nL Φ pc loc (.int i :: .ref (gr g z) :: rest) w := by
  obtain ⟨p, e, s, m, args, below, meth, c⟩ := K
  obtain ⟨hx, hb, -, -, -, ho, ht, hD, hSt⟩ := h
  subst hq
  intro H locs ls hP hS hl
  obtain ⟨kz, hkz, hsz⟩ := jl_ix g w hz hw rfl
  exact va_iald hx hb hSt.2.1 hP kz 0 hkz rfl hi hd (k H locs ls hP hS hl)
theorem j_zald (h : jH g K own cc nL r) {z n : Nat} {f : Nat → Int32} {i : Int32} (hz : z < NW) (hw : w z = .inl (gZ g, n, .inl f)) (hi : vp_in i n) (hd : decode cc pc = .ok (.baload, 1)) (hq : pc + 1 = q)
    (k : J g d K nL Φ q loc (.int (f i.toNatClampNeg) :: rest) w) : J g d K nL Φ pc loc (.int i :: .ref (gr g z) :: rest) w := by
  obtain ⟨p, e, s, m, args, below, meth, c⟩ := K
  obtain ⟨hx, hb, -, -, -, ho, ht, hD, hSt⟩ := h
  subst hq
  intro H locs ls hP hS hl
  obtain ⟨kz, hkz, hsz⟩ := jl_ix g w hz hw rfl
  exact va_zald hx hb hSt.2.1 hP kz 1 hkz rfl hi hd (k H locs ls hP hS hl)
theorem j_aald (h : jH g K own cc nL r) {z n : Nat} {f : Nat → Option Nat} {i : Int32} (hz : z < NW) (hw : w z = .inl (gT g, n, .inr (.inr (.inr (.inr f))))) (hi : vp_in i n) (hd : decode cc pc = .ok (.aaload, 1)) (hq : pc + 1 = q)
    (k : J g d K nL Φ q loc (va_rf (f i.toNatClampNeg) :: rest) w) : J g d K nL Φ pc loc (.int i :: .ref (gr g z) :: rest) w := by
  obtain ⟨p, e, s, m, args, below, meth, c⟩ := K
  obtain ⟨hx, hb, -, -, -, ho, ht, hD, hSt⟩ := h
  subst hq
  intro H locs ls hP hS hl
  obtain ⟨kz, hkz, hsz⟩ := jl_ix g w hz hw rfl
  exact va_aldq hx hb hSt.2.1 hP kz 2 hkz rfl hi hd (k H locs ls hP hS hl)
theorem j_iast (h : jH g K own cc nL r) {z n : Nat} {f : Nat → Int32} {i x : Int32} (hz : z < NW) (hw : w z = .inl (gI g, n, .inl f)) (hi : vp_in i n) (hd : decode cc pc = .ok (.iastore, 1)) (hq : pc + 1 = q)
    (k : J g d K nL Φ q loc rest (va_up w z (.inl (gI g, n, .inl (upd f i.toNatClampNeg x))))) : J g d K nL Φ pc loc (.int x :: .int i :: .ref (gr g z) :: rest) w := by
  obtain ⟨p, e, s, m, args, below, meth, c⟩ := K
  obtain ⟨hx, hb, -, -, -, ho, ht, hD, hSt⟩ := h
  subst hq
  intro H locs ls hP hS hl
  obtain ⟨kz, hkz, hsz⟩ := jl_ix g w hz hw rfl
  refine va_iast hx hb hSt.2.1 hP (jl_D hD w) hS kz 0 hkz rfl hi hd (fun H1 locs1 hP1 hD1 hS1 => ?_)
  rw [hsz _ rfl] at hP1
  exact k H1 locs1 ls hP1 hS1 hl
theorem j_zast (h : jH g K own cc nL r) {z n : Nat} {f : Nat → Int32} {i x : Int32} (hz : z < NW) (hw : w z = .inl (gZ g, n, .inl f)) (hi : vp_in i n) (hd : decode cc pc = .ok (.bastore, 1)) (hq : pc + 1 = q)
    (k : J g d K nL Φ q loc rest (va_up w z (.inl (gZ g, n, .inl (upd f i.toNatClampNeg (vp_nar .boolean x)))))) : J g d K nL Φ pc loc (.int x :: .int i :: .ref (gr g z) :: rest) w := by
  obtain ⟨p, e, s, m, args, below, meth, c⟩ := K
  obtain ⟨hx, hb, -, -, -, ho, ht, hD, hSt⟩ := h
  subst hq
  intro H locs ls hP hS hl
  obtain ⟨kz, hkz, hsz⟩ := jl_ix g w hz hw rfl
  refine va_zast hx hb hSt.2.1 hP (jl_D hD w) hS kz 1 hkz rfl hi hd (fun H1 locs1 hP1 hD1 hS1 => ?_)
  rw [hsz _ rfl] at hP1
  exact k H1 locs1 ls hP1 hS1 hl
theorem j_alen (h : jH g K own cc nL r) {z : Nat} {cA : ClassId} {x : vp_A} (t0 : Nat) {ty : FieldType} (v : Int32) (hz : z < NW) (hw : w z = .inl (cA, x)) (ht0 : (jty g)[t0]? = some (cA, ty)) (hv : Int32.ofNat x.1 = v) (hd : decode cc pc = .ok (.arraylength, 1)) (hq : pc + 1 = q)
    (k : J g d K nL Φ q loc (.int v :: rest) w) : J g d K nL Φ pc loc (.ref (gr g z) :: rest) w := by
  obtain ⟨p, e, s, m, args, below, meth, c⟩ := K
  obtain ⟨hx, hb, -, -, -, ho, ht, hD, hSt⟩ := h
  subst hq
  intro H locs ls hP hS hl
  obtain ⟨kz, hkz, hsz⟩ := jl_ix g w hz hw rfl
  exact va_alen hx hb hSt.2.1 hP kz t0 hkz ht0 hv hd (k H locs ls hP hS hl)
theorem j_gets (h : jH g K own cc nL r) {index : Nat} (hm : Cond.fieldLink own index "TwinPatience" "FIRST_PLACES" "[I" ∈ jtb) (hd : decode cc pc = .ok (.getstatic index, 3)) (hq : pc + 3 = q)
    (k : J g d K nL Φ q loc (.ref (gF g) :: rest) w) : J g d K nL Φ pc loc rest w := by
  obtain ⟨p, e, s, m, args, below, meth, c⟩ := K
  obtain ⟨hx, hb, -, -, -, ho, ht, hD, hSt⟩ := h
  subst hq
  intro H locs ls hP hS hl
  exact va_gets hx hb hSt.2.2.1 hS ho (ht _ hm) (fun _ h9 => h9) hd (k H locs ls hP hS hl)
theorem j_getsN (h : jH g K RX1 cc nL r) (hd : decode cc pc = .ok (.getstatic 79, 3)) (hq : pc + 3 = q)
    (k : J g d K nL Φ q loc (.ref (gF g) :: rest) w) : J g d K nL Φ pc loc rest w := by
  obtain ⟨p, e, s, m, args, below, meth, c⟩ := K
  obtain ⟨hx, hb, -, -, -, ho, ht, hD, hSt⟩ := h
  subst hq
  intro H locs ls hP hS hl
  exact va_getsN hx hb hSt.2.2.1 hS ho (hSt.1.2.use rfl) (fun _ h9 => h9) hd (k H locs ls hP hS hl)
theorem j_Fald (h : jH g K own cc nL r) {i : Int32} (hi : vp_in i 22) (hd : decode cc pc = .ok (.iaload, 1)) (hq : pc + 1 = q)
    (k : J g d K nL Φ q loc (.int (nI (fpv i.toNatClampNeg)) :: rest) w) : J g d K nL Φ pc loc (.int i :: .ref (gF g) :: rest) w := by
  obtain ⟨p, e, s, m, args, below, meth, c⟩ := K
  obtain ⟨hx, hb, -, -, -, ho, ht, hD, hSt⟩ := h
  subst hq
  intro H locs ls hP hS hl
  obtain ⟨cell, h1, h2, h3, h4, h5, h6, h7⟩ := hSt.2.2.2
  have hlt : i.toNatClampNeg < 22 := Nat.not_le.mp fun q => hi (Or.inr q)
  have hb1 : gF g < s.heap.size := (Array.getElem?_eq_some_iff.mp h1).1
  exact W.iald (v := jFP i.toNatClampNeg) hx hb (by rw [hS.2.1 _ hb1 h7]; exact h1) h2 h3 (fun z => by rcases z with z | z; exact hi (Or.inl z); omega) (h6 _ hlt) rfl rfl hd (k H locs ls hP hS hl)
theorem j_Flen (h : jH g K own cc nL r) (hd : decode cc pc = .ok (.arraylength, 1)) (hq : pc + 1 = q)
    (k : J g d K nL Φ q loc (.int 22 :: rest) w) : J g d K nL Φ pc loc (.ref (gF g) :: rest) w := by
  obtain ⟨p, e, s, m, args, below, meth, c⟩ := K
  obtain ⟨hx, hb, -, -, -, ho, ht, hD, hSt⟩ := h
  subst hq
  intro H locs ls hP hS hl
  obtain ⟨cell, h1, h2, h3, h4, h5, h6, h7⟩ := hSt.2.2.2
  have hb1 : gF g < s.heap.size := (Array.getElem?_eq_some_iff.mp h1).1
  exact W.alen (n := 22) hx hb (by rw [hS.2.1 _ hb1 h7]; exact h1) h2 h5 rfl rfl hd (k H locs ls hP hS hl)

theorem j_iret (h : jH g K own cc nL r) {v : Int32} (hri : r = some .int) (hd : decode cc pc = .ok (.ireturn, 1)) (k : Φ (some (.int v)) w) : J g d K nL Φ pc loc [.int v] w := by
  obtain ⟨p, e, s, m, args, below, meth, c⟩ := K
  obtain ⟨hx, hb, hml, hr, hlk, ho, ht, hD, hSt⟩ := h
  intro H locs ls hP hS hl
  exact W.iret hx hb (hr.trans hri) (fun t ht2 hW => ⟨⟨_, w, rfl, k, by rw [ht2]; exact hP⟩, hS.F ht2⟩) hS.2.2 hd hlk

theorem j_zret (h : jH g K own cc nL r) {v : Int32} (hri : r = some .boolean) (hn : narrow .boolean (.int v) = .int v) (hd : decode cc pc = .ok (.ireturn, 1)) (k : Φ (some (.int v)) w) : J g d K nL Φ pc loc [.int v] w := by
  obtain ⟨p, e, s, m, args, below, meth, c⟩ := K
  obtain ⟨hx, hb, hml, hr, hlk, ho, ht, hD, hSt⟩ := h
  intro H locs ls hP hS hl
  exact W.zret hx hb (hr.trans hri) hn (fun t ht2 hW => ⟨⟨_, w, rfl, k, by rw [ht2]; exact hP⟩, hS.F ht2⟩) hS.2.2 hd hlk

theorem j_vret (h : jH g K own cc nL r) (hri : r = none) (hd : decode cc pc = .ok (.return_, 1)) (k : Φ (none) w) : J g d K nL Φ pc loc [] w := by
  obtain ⟨p, e, s, m, args, below, meth, c⟩ := K
  obtain ⟨hx, hb, hml, hr, hlk, ho, ht, hD, hSt⟩ := h
  intro H locs ls hP hS hl
  exact W.vret hx hb (hr.trans hri) (fun t ht2 hW => ⟨⟨_, w, rfl, k, by rw [ht2]; exact hP⟩, hS.F ht2⟩) hS.2.2 hd hlk

theorem j_lret (h : jH g K own cc nL r) {v : Int64} (hri : r = some .long) (hd : decode cc pc = .ok (.lreturn, 1)) (k : Φ (some (.long v)) w) : J g d K nL Φ pc loc [.long v] w := by
  obtain ⟨p, e, s, m, args, below, meth, c⟩ := K
  obtain ⟨hx, hb, hml, hr, hlk, ho, ht, hD, hSt⟩ := h
  intro H locs ls hP hS hl
  exact W.lret hx hb (hr.trans hri) (fun t ht2 hW => ⟨⟨_, w, rfl, k, by rw [ht2]; exact hP⟩, hS.F ht2⟩) hS.2.2 hd hlk

theorem j_aret (h : jH g K own cc nL r) {v : Value} {C : String} (hri : r = some (.object C)) (hv : v = .null ∨ ∃ a, v = .ref a) (hd : decode cc pc = .ok (.areturn, 1)) (k : Φ (some v) w) : J g d K nL Φ pc loc [v] w := by
  obtain ⟨p, e, s, m, args, below, meth, c⟩ := K
  obtain ⟨hx, hb, hml, hr, hlk, ho, ht, hD, hSt⟩ := h
  intro H locs ls hP hS hl
  exact W.aret hx hb (hr.trans hri) (Or.inl ⟨_, rfl⟩) hv (fun t ht2 hW => ⟨⟨_, w, rfl, k, by rw [ht2]; exact hP⟩, hS.F ht2⟩) hS.2.2 hd hlk

end JJ

theorem jtb_in (y : MethodName) (b : ByteArray) (n : Nat) (r : Option FieldType) (h : Cond.code y b n r ∈ jtb) : GoodIn jtb (.code y b n r :: jtb) := fun w hw => by
  rcases List.mem_cons.mp hw with rfl | hw
  · exact ⟨h, good_of_word (tbl_good _ h)⟩
  · exact ⟨hw, good_of_word (tbl_good _ hw)⟩
theorem jSt_to {g : jG} {s U : State} {H : Heap} {locs : List Loc} (h : jSt g s s.heap) (hS : va_S (gA g) s.heap H locs) (hW : s.WarmedH U.vm) : jSt g U H :=
  ⟨⟨fun q hq => (h.1.1 q hq).warmM hW, h.1.2.warmF hW⟩, va_K.moved hW.alike h.2.1, (h.2.2.1.kept hS.2.1).moved hW.alike, (h.2.2.2.kept hS.2.1).moved hW.alike⟩
theorem jPc_blind (g : jG) (As : List Value) (w : jW) : FrameBlind (jPc g As w) := fun a U gg mk h => ⟨h.1, h.2.1, h.2.2.1, ⟨fun q hq => va_Nw.same rfl (u := U) (U := U.calling gg mk a) rfl (h.2.2.2.1.1 q hq), va_Nw.same rfl (u := U) (U := U.calling gg mk a) rfl h.2.2.2.1.2⟩, va_K.moved (u := U) (U := U.calling gg mk a) (Vm.Alike.refl U.vm) h.2.2.2.2.1, va_Z.moved (u := U) (U := U.calling gg mk a) (Vm.Alike.refl U.vm) h.2.2.2.2.2.1, va_T.moved (u := U) (U := U.calling gg mk a) (Vm.Alike.refl U.vm) h.2.2.2.2.2.2⟩
/-- a contract's start: from the entry, with the arguments in the locals -/
theorem con_of {g : jG} {d : Nat} {y : MethodName} {b : ByteArray} {n : Nat} {r : Option FieldType} {As : List Value} {w : jW} {Φ : Option Value → jW → Prop} (hy : plainFor y = true) (hn : (lg_sl As).length ≤ n) (loc : List (Nat × Value)) (hloc : lv_args 0 As = loc)
    (k : ∀ K, jH g K y.cls b n r → J g d K n Φ 0 loc [] w) : Con g d y b n r As w Φ := by
  unfold Con Met
  refine MetFree.of_bodySF (code := b) (maxLocals := n) (ret := r) hy ?_ ?_
  · intro args s m h hn
    obtain ⟨meth, c, h1, h2, h3, h4, h5, h6, -, -⟩ := Cond.code_spec hn (atoms_spec (ws := .code y b n r :: jtb) h _ List.mem_cons_self)
    exact ⟨meth, c, h1, h2, h3, h4, h5, h6⟩
  · intro p e s m args below meth c s₁ B hml hv _
    have hh0 : s₁.heap = s.heap := by rw [B.state]; rfl
    obtain ⟨rfl, hD, hP, hSt⟩ := hv
    have hts := atoms_spec (ws := .code y b n r :: jtb) B.pre
    have h : jH g (p, e, s, m, As.toArray, below, meth, c) y.cls b n r := ⟨B.exec, B.bytes, hml, B.returns, B.notSynchronized, findClass_of_methodNamed B.named, fun w hw => hts w (List.mem_cons_of_mem _ hw), hD, hSt⟩
    have hl := lv_entry As (n := n) hn
    rw [hloc] at hl
    rw [lg_entry_eq]
    obtain ⟨t, a1, o, b1, b2, b3⟩ := k _ h s.heap [] _ hP va_S.rf hl s₁ hh0 (Stand.of_body B)
    exact ⟨t, o, a1, b1, b2, ⟨b3.1, b3.2⟩⟩
theorem j_run {g : jG} {d : Nat} {p : Program} {e : Env} {s : State} {m : MethodId} {args : Array Value} {below : List Frame} {meth : Method} {c : Code} {H : Heap} {locs : List Loc} {Q : State → Prop} {pc q : Nat} {ls : Array Slot} {st0 rest : List Value} {Ψ : Option Value → jW → Prop} {a : Array Value}
    (hr : va_Run p (gL g) e (jrm d) s m args below meth c H locs 0 0 0 0 (F0 m pc ls st0) rest (jQc g Ψ a) (gA g)) (hS : va_S (gA g) s.heap H locs) (hq : pc + 3 = q)
    (k : ∀ v w' H1 locs1, Ψ v w' → va_P (gD g) vwCl (jl g w') H1 → va_S (gA g) s.heap H1 locs1 → W p (gL g) e (jrm d) s m args below meth c H1 locs1 0 0 Q (F0 m q ls (v.toList ++ rest))) : W p (gL g) e (jrm d) s m args below meth c H locs 0 0 Q (F0 m pc ls st0) := by
  subst hq
  intro T hT X
  obtain ⟨v, st₀, t, T', L, h0, X', hL, e1, e2, ⟨⟨v', w', hv, hΨ, hP⟩, hz, hk⟩, st⟩ := hr T hT X
  cases hv
  rw [h0] at hz hk
  obtain ⟨t2, a1, b1⟩ := k v w' T'.heap (locs ++ L) hΨ (by rw [e1]; exact hP)
    ⟨Nat.le_trans hS.1 (by rw [e1]; exact hz), fun q h1 h2 => by rw [e1, hk q (Nat.lt_of_lt_of_le h1 hS.1) h2]; exact hS.2.1 q h1 h2, fun q hq => by
      rcases List.mem_append.mp hq with h | h
      · exact hS.2.2 q h
      · exact hL q h⟩ T' rfl X'
  exact ⟨t2, st t2 a1, b1⟩
section CC
variable {g : jG} {d d' : Nat} {K : jK} {own : String} {cc : ByteArray} {nL : Nat} {r : Option FieldType} {Φ : Option Value → jW → Prop} {pc q : Nat} {loc : List (Nat × Value)} {stk rest : List Value} {w : jW}
variable {y : MethodName} {b : ByteArray} {n : Nat} {r' : Option FieldType} {np idx : Nat} {As : List Value} {Ψ : Option Value → jW → Prop} {z : Nat}
theorem j_locals {d d' n : Nat} (hn : n ≤ 21) (hd : d' + 1 ≤ d) : 8 + (n + 11) + (jrm d').locals ≤ (jrm d).locals := by
  show 8 + (n + 11) + 40 * d' ≤ 40 * d
  omega

theorem j_callB {s : State} {args : Array Value} (mo : MOK y b n r' np) (hd : d' + 1 ≤ d) (ml : Cond.methodLink own idx y ∈ jtb) (ht : ∀ w ∈ jtb, w.before args s = true) : CallB (jrm d) s args own idx y b n r' (.code y b n r' :: jtb) (jrm d') 0 0 np := by
  obtain ⟨h1, h2, h3, h4, h5⟩ := mo
  exact callB_of np ht (jtb_in y b n r' h1) rfl rfl rfl (ht _ h2) (ht _ ml) ⟨h3.1, h3.2, h4⟩ ⟨hd, j_locals h5 hd⟩
theorem j_callN {s : State} {args : Array Value} {host : String} (mo : MOK y b n r' np) (hd : d' + 1 ≤ d) (ml : (own, idx, y, host) ∈ jns) (hns : jNs s) (ht : ∀ w ∈ jtb, w.before args s = true) : va_CN (jrm d) s args own idx y host b n r' (.code y b n r' :: jtb) (jrm d') 0 0 np := by
  obtain ⟨h1, h2, h3, h4, h5⟩ := mo
  exact va_cnB np ht (jtb_in y b n r' h1) rfl rfl rfl (hns.1 _ ml) (ht _ h2) ⟨h3.1, h3.2, h4⟩ ⟨hd, j_locals h5 hd⟩

theorem j_cV (h : jH g K own cc nL r) {C : String} {T : u_T} {N ci : Nat} {fs : List Value} (mo : MOK y b n r' np) (mi : Cond.instanceMethod y ∈ jtb) (mv : Cond.selects C y y ∈ jtb) (ml : Cond.methodLink own idx y ∈ jtb) (hc : Con g d' y b n r' (.ref (gr g z) :: As) w Ψ) (hdd : d' + 1 ≤ d) (hz : z < NW) (hw : w z = .inr (ci, fs)) (hcl : vwCl[ci]? = some (C, T, N)) (hs : stk = As.reverse ++ .ref (gr g z) :: rest) (hnp : As.length = np) (hcat : (rest.map fun v => v.category).sum ≤ 8) (hd : decode cc pc = .ok (.invokevirtual idx, 3)) (hq : pc + 3 = q)
    (k : ∀ v w', Ψ v w' → J g d K nL Φ q loc (v.toList ++ rest) w') : J g d K nL Φ pc loc stk w := by
  obtain ⟨p, e, s, m, args, below, meth, c⟩ := K
  obtain ⟨hx, hb, hml, hr, hlk, ho, ht, hD, hSt⟩ := h
  subst hs
  intro H locs ls hP hS hl
  obtain ⟨kz, hkz, hsz⟩ := jl_ix g w hz hw (lv_live hcl)
  refine j_run (va_runV (As := As) (rest := rest) ⟨hx, hb, hml, ho, ht⟩ hc ⟨j_callB mo hdd ml ht, ht _ mi, ht _ mv⟩ ⟨jPc_blind g _ w, va_recv (q := (C, T, N)) (q0 := kz) hSt.2.1 hP hcl hkz, fun U hU hW => ⟨rfl, hD, by rw [hU]; exact hP, by rw [hU]; exact jSt_to hSt hS hW⟩⟩ rfl hnp hl.1 rfl (lv_room hcat) hd ⟨Nat.le_refl _, Nat.le_refl _⟩) hS hq (fun v w' H1 locs1 hΨ hP1 hS1 => k v w' hΨ H1 locs1 ls hP1 hS1 hl)

theorem j_cVN (h : jH g K own cc nL r) {C : String} {T : u_T} {N ci : Nat} {fs : List Value} (mo : MOK y b n r' np) (mi : Cond.instanceMethod y ∈ jtb) (mv : Cond.selects C y y ∈ jtb) {host : String} (ml : (own, idx, y, host) ∈ jns) (hc : Con g d' y b n r' (.ref (gr g z) :: As) w Ψ) (hdd : d' + 1 ≤ d) (hz : z < NW) (hw : w z = .inr (ci, fs)) (hcl : vwCl[ci]? = some (C, T, N)) (hs : stk = As.reverse ++ .ref (gr g z) :: rest) (hnp : As.length = np) (hcat : (rest.map fun v => v.category).sum ≤ 8) (hd : decode cc pc = .ok (.invokevirtual idx, 3)) (hq : pc + 3 = q)
    (k : ∀ v w', Ψ v w' → J g d K nL Φ q loc (v.toList ++ rest) w') : J g d K nL Φ pc loc stk w := by
  obtain ⟨p, e, s, m, args, below, meth, c⟩ := K
  obtain ⟨hx, hb, hml, hr, hlk, ho, ht, hD, hSt⟩ := h
  subst hs
  intro H locs ls hP hS hl
  obtain ⟨kz, hkz, hsz⟩ := jl_ix g w hz hw (lv_live hcl)
  refine j_run (va_runVN (As := As) (rest := rest) ⟨hx, hb, hml, ho, ht⟩ hc ⟨j_callN mo hdd ml hSt.1 ht, ht _ mi, ht _ mv⟩ ⟨jPc_blind g _ w, va_recv (q := (C, T, N)) (q0 := kz) hSt.2.1 hP hcl hkz, fun U hU hW => ⟨rfl, hD, by rw [hU]; exact hP, by rw [hU]; exact jSt_to hSt hS hW⟩⟩ rfl hnp hl.1 rfl (lv_room hcat) hd ⟨Nat.le_refl _, Nat.le_refl _⟩) hS hq (fun v w' H1 locs1 hΨ hP1 hS1 => k v w' hΨ H1 locs1 ls hP1 hS1 hl)

theorem j_cS (h : jH g K own cc nL r) (mo : MOK y b n r' np) (ms : Cond.static y ∈ jtb) (ml : Cond.methodLink own idx y ∈ jtb) (hc : Con g d' y b n r' As w Ψ) (hdd : d' + 1 ≤ d) (hs : stk = As.reverse ++ rest) (hnp : As.length = np) (hcat : (rest.map fun v => v.category).sum ≤ 8) (hd : decode cc pc = .ok (.invokestatic idx, 3)) (hq : pc + 3 = q)
    (k : ∀ v w', Ψ v w' → J g d K nL Φ q loc (v.toList ++ rest) w') : J g d K nL Φ pc loc stk w := by
  obtain ⟨p, e, s, m, args, below, meth, c⟩ := K
  obtain ⟨hx, hb, hml, hr, hlk, ho, ht, hD, hSt⟩ := h
  subst hs
  intro H locs ls hP hS hl
  refine j_run (va_runS (As := As) (rest := rest) ⟨hx, hb, hml, ho, ht⟩ hc ⟨j_callB mo hdd ml ht, ht _ ms⟩ ⟨jPc_blind g _ w, fun U hU hW => ⟨rfl, hD, by rw [hU]; exact hP, by rw [hU]; exact jSt_to hSt hS hW⟩⟩ rfl hnp hl.1 rfl (lv_room hcat) hd ⟨Nat.le_refl _, Nat.le_refl _⟩) hS hq (fun v w' H1 locs1 hΨ hP1 hS1 => k v w' hΨ H1 locs1 ls hP1 hS1 hl)

theorem j_cSN (h : jH g K own cc nL r) (mo : MOK y b n r' np) (ms : Cond.static y ∈ jtb) {host : String} (ml : (own, idx, y, host) ∈ jns) (hc : Con g d' y b n r' As w Ψ) (hdd : d' + 1 ≤ d) (hs : stk = As.reverse ++ rest) (hnp : As.length = np) (hcat : (rest.map fun v => v.category).sum ≤ 8) (hd : decode cc pc = .ok (.invokestatic idx, 3)) (hq : pc + 3 = q)
    (k : ∀ v w', Ψ v w' → J g d K nL Φ q loc (v.toList ++ rest) w') : J g d K nL Φ pc loc stk w := by
  obtain ⟨p, e, s, m, args, below, meth, c⟩ := K
  obtain ⟨hx, hb, hml, hr, hlk, ho, ht, hD, hSt⟩ := h
  subst hs
  intro H locs ls hP hS hl
  refine j_run (va_runSN (As := As) (rest := rest) ⟨hx, hb, hml, ho, ht⟩ hc ⟨j_callN mo hdd ml hSt.1 ht, ht _ ms, trivial⟩ ⟨jPc_blind g _ w, fun U hU hW => ⟨rfl, hD, by rw [hU]; exact hP, by rw [hU]; exact jSt_to hSt hS hW⟩⟩ rfl hnp hl.1 rfl (lv_room hcat) hd ⟨Nat.le_refl _, Nat.le_refl _⟩) hS hq (fun v w' H1 locs1 hΨ hP1 hS1 => k v w' hΨ H1 locs1 ls hP1 hS1 hl)

end CC
