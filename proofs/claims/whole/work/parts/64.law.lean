/-! THE CLAIM OUT OF ONE WALK OF THE LAW'S BODY. Your part is whole_start (and what it stands on); all else here is the same for every law, but numbers. -/
def R_law : String := "TwinPatienceLaw"
def lw_P (b : Addr) (xs : List Int32) (args : Array Value) (s : State) : Prop := args = #[.ref b] ∧ s.IntsAt b xs ∧ xs.length ≤ 1536 ∧ (Jvm.Cond.and given_1 narrow_1).before args s = true
def lw_Q (_ : Array Value) (s : State) (o : Outcome) (t : State) : Prop := o = .returned (some (.int 1)) ∧ Framed s o t [] 600000 7302250
def lw_Z (below : List Frame) (a : Array Value) (s : State) : State → Prop := fun t => ∃ o, t.status = .running ∧ Ended t below o ∧ lw_Q a s o t
/-- the law's own end, with 1 on the stack, nothing written that was there before, its room as the claim has it -/
theorem lw_ret {p : Program} {l : Launch} {e : Env} {s : State} {m : MethodId} {below : List Frame} {meth : Method} {c : Code} {b : Nat} (hx : p.tables.exec = Jvm.exec) (hb : c.code = code) (hr : meth.sig.returnType = ret) (hlocks : meth.locks = false) {pc : Nat} {H : Heap} {ls : Array Slot} (hdg : decode code pc = .ok (.ireturn, 1)) : W p l e room_1 s m #[Value.ref b] below meth c H [] 600000 7302250 (lw_Z below #[Value.ref b] s) (F0 m pc ls [.int 1]) := by
  intro T hT X
  obtain ⟨fs, hret, hrun, hended, hW, hframe⟩ := X.leave (v := some (.int 1)) (hlocks := hlocks) (fun h => by rw [hr] at h; cases h)
  have hmeth' : T.vm.method? m = some meth := X.method'
  refine ⟨T.setFrames fs, ?_, .returned (some (.int 1)), hrun, hended, rfl, ⟨_, rfl⟩, hW, hframe⟩
  jvm_step X.here [X.here.top, hx, hb, hdg, hmeth', hr, ret, narrow_b1]
  (try refine ⟨rfl, ?_⟩); (try refine ⟨rfl, ?_⟩)
  first | (intro acts; rw [hret _ acts rfl rfl rfl]) | rw [hret _ _ rfl rfl rfl]
  exact Steps.refl _
/-- what holds at the law's entry: the machine, the code, the tables' words (any of lw_tbl by 'hts w (by decide +kernel)'), the script of L ints xs at the cell b, what the Statement gives of the start (any of its parts by flat_of_before) -/
def lw_At (p : Program) (s : State) (m : MethodId) (meth : Method) (c : Code) (b L : Nat) (xs : Nat → Int32) : Prop :=
  p.tables.exec = Jvm.exec ∧ c.code = code ∧ meth.sig.returnType = ret ∧ c.maxLocals = 4 ∧ s.vm.findClass R_law = some m.cls ∧ (∀ w ∈ lw_tbl, w.before #[Value.ref b] s = true) ∧ va_X b L xs s s.heap ∧ b < s.heap.size ∧ meth.locks = false ∧ (Jvm.Cond.and given_1 narrow_1).before #[Value.ref b] s = true

abbrev DW : jW := fun _ => dedE
def jX (g : jG) (K : jK) (b L : Nat) (xs : Nat → Int32) : Prop := va_X b L xs K.2.2.1 K.2.2.1.heap ∧ b < jZ K ∧ ¬ gA g b
abbrev LOC (g : jG) (b i : Nat) : List (Nat × Value) := [(3, .int (nI i)), (2, .ref (gr g 67)), (1, .ref (gr g 0)), (0, .ref b)]
section NL
variable {g : jG} {R : Room} {K : jK} {own : String} {cc : ByteArray} {nL : Nat} {r : Option FieldType} {Q : State → Prop} {pc q : Nat} {loc : List (Nat × Value)} {stk rest : List Value} {w : jW} {n sl : Nat} {b L : Nat} {xs : Nat → Int32}
theorem n_slen (h : jH g K own cc nL r) (hX : jX g K b L xs) (hd : decode cc pc = .ok (.arraylength, 1)) (hq : pc + 1 = q) (k : JN g R K nL Q q loc (.int (nI L) :: rest) w n sl) : JN g R K nL Q pc loc (.ref b :: rest) w n sl := by
  obtain ⟨p, e, s, m, args, below, meth, c⟩ := K
  obtain ⟨hx, hb, -⟩ := h
  obtain ⟨x1, x2, x3⟩ := hX
  subst hq
  intro H locs ls hP hS hl
  exact va_slen hx hb x1 x2 x3 hS hd (k H locs ls hP hS hl)
theorem n_sld (h : jH g K own cc nL r) (hX : jX g K b L xs) {i : Int32} (hin : vp_in i L) (hd : decode cc pc = .ok (.iaload, 1)) (hq : pc + 1 = q) (k : JN g R K nL Q q loc (.int (xs i.toNatClampNeg) :: rest) w n sl) : JN g R K nL Q pc loc (.int i :: .ref b :: rest) w n sl := by
  obtain ⟨p, e, s, m, args, below, meth, c⟩ := K
  obtain ⟨hx, hb, -⟩ := h
  obtain ⟨x1, x2, x3⟩ := hX
  subst hq
  intro H locs ls hP hS hl
  exact va_sld hx hb x1 x2 x3 hS hin hd (k H locs ls hP hS hl)
/-- script[i + j] -/
theorem n_arg (h : jH g K own cc nL r) (hX : jX g K b L xs) {i : Nat} (j : Nat) {jj : Int} (hjj : Int32.ofInt jj = nI j) (hij : i + j < L) (hL : L ≤ 1536) (h0 : decode cc pc = .ok (.aload_n 0, 1)) (h1 : decode cc (pc + 1) = .ok (.iload_n 3, 1)) (h2 : decode cc (pc + 1 + 1) = .ok (.iconst jj, 1)) (h3 : decode cc (pc + 1 + 1 + 1) = .ok (.iadd, 1)) (h4 : decode cc (pc + 1 + 1 + 1 + 1) = .ok (.iaload, 1)) (hq : pc + 1 + 1 + 1 + 1 + 1 = q)
    (k : JN g R K nL Q q (LOC g b i) (.int (xs (i + j)) :: rest) w n sl) : JN g R K nL Q pc (LOC g b i) rest w n sl := by
  refine n_aload_n h 3 rfl h0 rfl ?_
  refine n_iload_n h 0 rfl h1 rfl ?_
  refine n_iconst h (nI j) hjj h2 rfl ?_
  refine n_iadd h h3 rfl ?_
  rw [nI_add]
  refine n_sld h hX (vp_in_nI hij (by omega)) h4 hq ?_
  rw [nI_clamp (show i + j < 2 ^ 31 by omega)]
  exact k
end NL
theorem law_gt {i L : Nat} (hi : i ≤ 2000) (hL : L ≤ 1536) : (nI L - nI 3 < nI i) ↔ ¬ i + 3 ≤ L := by
  rw [i32_lt, i32_sub, i32_nI, i32_nI, i32_nI]
  omega
theorem whereIs {σ : Sg} (S : SI σ) (a : Int32) : ∃ p0 i0, inn 104 a → p0 < 22 ∧ i0 < qn (zg σ) p0 ∧ qc (zg σ) p0 i0 = vv a := by
  by_cases h : inn 104 a
  · obtain ⟨k, hk, -, hv⟩ := inn_of (by decide) h
    obtain ⟨p, i, h1, h2, h3⟩ := S.1.1.2.2.1 k hk
    exact ⟨p, i, fun _ => ⟨h1, h2, h3.trans hv.symm⟩⟩
  · exact ⟨0, 0, fun z => absurd z h⟩
