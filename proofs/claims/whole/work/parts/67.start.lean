theorem xw_up (g : jG) (w : jW) (X : Xs) {z : Nat} {c : va_E} (h : z < 67) : xw g (va_up w z c) X = xw g w X := by
  funext p
  unfold xw
  by_cases h7 : p < 7
  · rw [if_pos h7, if_pos h7]
  · rw [if_neg h7, if_neg h7]
    by_cases h67 : p < 67
    · rw [if_pos h67, if_pos h67]
    · rw [if_neg h67, if_neg h67]
      exact up_ne _ _ (by omega)
theorem mw_up (g : jG) (w : jW) (M : Ms) {c : va_E} : mw g (va_up w 67 c) M = mw g w M := by
  funext p
  unfold mw
  by_cases h : 67 ≤ p ∧ p < 77
  · rw [if_pos h, if_pos h]
  · rw [if_neg h, if_neg h]
    exact up_ne _ _ (by omega)
theorem ord_inj77 : ∀ p, p < 77 → ∀ q, q < 77 → ord p = ord q → p = q := by decide +kernel
theorem dfX2 : ∀ j, j < 9 → defaultValue (tyX2 j) = vp_V X0s j := by
  intro j hj
  rcases (show j = 0 ∨ j = 1 ∨ j = 2 ∨ j = 3 ∨ j = 4 ∨ j = 5 ∨ j = 6 ∨ j = 7 ∨ j = 8 by omega) with rfl | rfl | rfl | rfl | rfl | rfl | rfl | rfl | rfl <;> rfl
theorem dfX3 : ∀ j, j < 17 → defaultValue (tyX3 j) = vp_V M0s j := by
  intro j hj
  rcases (show j = 0 ∨ j = 1 ∨ j = 2 ∨ j = 3 ∨ j = 4 ∨ j = 5 ∨ j = 6 ∨ j = 7 ∨ j = 8 ∨ j = 9 ∨ j = 10 ∨ j = 11 ∨ j = 12 ∨ j = 13 ∨ j = 14 ∨ j = 15 ∨ j = 16 by omega) with rfl | rfl | rfl | rfl | rfl | rfl | rfl | rfl | rfl | rfl | rfl | rfl | rfl | rfl | rfl | rfl | rfl <;> rfl
theorem fp_in : ∀ j, j < 22 → Cond.eq (.elem (.static "TwinPatience" "FIRST_PLACES" "[I") (.int (Int32.ofNat j))) (.int (nI (fpv j))) ∈ flatC (Jvm.Cond.and given_1 narrow_1) := by decide +kernel
theorem fp_len : Cond.eq (.length (.static "TwinPatience" "FIRST_PLACES" "[I")) (.int (Int32.ofNat 22)) ∈ flatC (Jvm.Cond.and given_1 narrow_1) := by decide +kernel
theorem fp_arr : Cond.arrayOf (.static "TwinPatience" "FIRST_PLACES" "[I") .int ∈ flatC (Jvm.Cond.and given_1 narrow_1) := by decide +kernel
theorem tb_lays : Cond.laysStatic "TwinPatience" "FIRST_PLACES" "[I" ∈ lw_tbl := List.mem_of_getElem? (i := 149) (by decide +kernel)
theorem tb_over : Cond.arrayOver (.object RX1) ∈ lw_tbl := List.mem_of_getElem? (i := 110) (by decide +kernel)
/-- what the launch gives the layer -/
theorem law_g {p : Program} {s : State} {m : MethodId} {meth : Method} {c : Code} {b L : Nat} {xs : Nat → Int32} (l : Launch) (C0 : lw_At p s m meth c b L xs) : ∃ g : jG, gL g = l ∧ (∀ q, gr g q = s.heap.size + ord q) ∧ (∀ q, gA g q ↔ s.heap.size ≤ q) ∧ jD g ∧ jSt g s s.heap := by
  obtain ⟨hx, hb, hr, hml, hown, hts, hX, hbl, hlocks, hgv⟩ := C0
  have hjt : ∀ w ∈ jtb, w.before #[Value.ref b] s = true := fun w hw => hts w (List.mem_filter.mp hw).1
  have hs := flat_of_before _ hgv
  obtain ⟨c0, iS0, hK0⟩ := u_known (C := RX0) (T := TX0) (N := 2) (n := 2) hjt inX0 (hjt _ mK_X0_in)
  obtain ⟨c1, iS1, hK1⟩ := u_known (C := RX1) (T := TX1) (N := 9) (n := 9) hjt inX1 (hjt _ mK_X1_in)
  obtain ⟨c2, iS2, hK2⟩ := u_known (C := RX2) (T := TX2) (N := 9) (n := 9) hjt inX2 (hjt _ mK_X2_in)
  obtain ⟨c3, iS3, hK3⟩ := u_known (C := RX3) (T := TX3) (N := 17) (n := 17) hjt inX3 (hjt _ mK_X3_in)
  obtain ⟨cI, kI, oI, i1, i2, i3⟩ := Cond.arrayClass_spec (hjt _ mK_int)
  obtain ⟨cZ, kZ, oZ, z1, z2, z3⟩ := Cond.arrayClass_spec (hjt _ mK_boo)
  obtain ⟨oT, cT, kT, t1, t2, t3, t4, t5⟩ := Cond.arrayOver_spec (hts _ tb_over)
  have hA : ∀ a : Nat, a < s.heap.size → ¬ (fun q : Nat => s.heap.size ≤ q) a := fun a h => Nat.not_le.mpr h
  obtain ⟨t, ht1, hT⟩ := va_Tof (f := jFP) (N := 22) (A := fun q : Nat => s.heap.size ≤ q) (by decide) (hs _ fp_arr) (va_eqt (hs _ fp_len)) (fun j hj => va_eqt (hs _ (fp_in j hj))) hA
  have hZ := va_Zof (A := fun q : Nat => s.heap.size ≤ q) (hts _ tb_lays) (hjt _ mN_X2) ht1 hA
  refine ⟨(l, (fun k => if k = 0 then c0 else if k = 1 then c1 else if k = 2 then c2 else c3, fun k => if k = 0 then iS0 else if k = 1 then iS1 else if k = 2 then iS2 else iS3), fun q => s.heap.size + ord q, fun q => s.heap.size ≤ q, t, cI, cZ, cT), rfl, fun _ => rfl, fun _ => Iff.rfl, ⟨fun i j hi hj e => ord_inj77 i hi j hj (Nat.add_left_cancel e), fun i _ => Nat.le_add_right _ _⟩, ⟨fun q hq => va_Nw.of rfl (hts _ (jns_ok q hq)), va_Nw.of rfl (hts _ jfn_ok)⟩, ⟨fun k q hq => ?_, fun k q hq => ?_⟩, hZ, hT⟩
  · match k, hq with
    | 0, hq => cases hq; exact hK0
    | 1, hq => cases hq; exact hK1
    | 2, hq => cases hq; exact hK2
    | 3, hq => cases hq; exact hK3
    | k + 4, hq => simp [vwCl] at hq
  · match k, hq with
    | 0, hq => cases hq; exact ⟨fun n z => ⟨fun k h => (by cases h), kI, i2, oI, i3⟩, i1⟩
    | 1, hq => cases hq; exact ⟨fun n z => ⟨fun k h => (by cases h), kZ, z2, oZ, z3⟩, z1⟩
    | 2, hq => cases hq; exact ⟨fun n z => ⟨fun k h => (by cases h), kT, t3, oT, t4⟩, kT, oT, t3, t4, t1, t5⟩
    | k + 3, hq => simp [jty] at hq
set_option maxHeartbeats 4000000 in
set_option maxRecDepth 100000 in
/-- the law from its entry: both objects are made, then the loop -/
theorem law_start {g : jG} {K : jK} {Q : State → Prop} {b L : Nat} {xs : Nat → Int32} (h : jH g K RL cL_law 4 (some .boolean)) (hA : jA g K) (hO : jO K) (hgr : ∀ q, gr g q = jZ K + ord q) (hX : jX g K b L xs) (hL : L ≤ 1536) (hend : ∀ loc w, JN g room_1 K 4 Q 662 loc [.int 1] w 77 9596) : JN g room_1 K 4 Q 0 [(0, .ref b)] [] DW 0 0 := by
  have o0 : ord 0 = 0 := rfl
  have o66 : ord 66 = 66 := rfl
  have o67 : ord 67 = 67 := rfl
  have g0 := hgr 0
  have g66 := hgr 66
  have g67 := hgr 67
  refine n_new h (q := 3) (z := 0) (C := RX2) (T := TX2) (N := 9) (ci := 2) (fs := X0s) inX2 tyX2_ok mK_L_7 mK_X2_in mN_X2 rfl dfX2 (Nat.le_of_ble_eq_true rfl) (Nat.le_of_ble_eq_true rfl) (by omega) (Or.inl rfl) dL_law_0 rfl ?_
  refine n_dup h (q := 4) rfl dL_law_3 rfl ?_
  refine n_cI (q := 7) (d' := 5) (mc := 66) (ms := 7172) (sz := jZ K + 1) h hA hO mo_X2_init rfl mI_X2_init mL_L_9 (C_X2_init g _ (jZ K + 1) (up_at _ _ _) (fun q _ => by rw [hgr q]; omega)) rfl (Or.inr ⟨0, by decide, by rw [up_at]; rfl, by omega⟩) (Nat.le_of_ble_eq_true rfl) (Nat.le_of_ble_eq_true rfl) (Nat.le_of_ble_eq_true rfl) (Nat.le_of_ble_eq_true rfl) rfl rfl (Nat.le_of_ble_eq_true rfl) dL_law_4 rfl ?_
  rintro _ ⟨X, rfl, RX⟩
  refine n_w (xw_up g DW X (by decide)) ?_
  refine n_astore_n h (q := 8) (loc' := [(1, _), (0, _)]) (by decide) rfl dL_law_7 rfl ?_
  refine n_ns (n' := 67) (sl' := 7181) rfl rfl ?_
  refine n_new h (q := 11) (z := 67) (C := RX3) (T := TX3) (N := 17) (ci := 3) (fs := M0s) inX3 tyX3_ok mK_L_10 mK_X3_in mN_X3 rfl dfX3 (Nat.le_of_ble_eq_true rfl) (Nat.le_of_ble_eq_true rfl) (by omega) (Or.inr ⟨66, by decide, xw_live g DW X (by decide), by omega⟩) dL_law_8 rfl ?_
  refine n_dup h (q := 12) rfl dL_law_11 rfl ?_
  refine n_cI (q := 15) (d' := 3) (mc := 9) (ms := 2398) (sz := jZ K + 68) h hA hO mo_X3_init rfl mI_X3_init mL_L_12 (C_X3_init g _ (jZ K + 68) (up_at _ _ _) (fun j hj => by
    have e1 : ord (67 + (j + 1)) = 67 + (j + 1) := by unfold ord; rw [if_neg (by omega), if_neg (by omega), if_neg (by omega), if_neg (by omega)]
    rw [hgr, e1]; omega)) rfl (Or.inr ⟨67, by decide, by rw [up_at]; rfl, by omega⟩) (Nat.le_of_ble_eq_true rfl) (Nat.le_of_ble_eq_true rfl) (Nat.le_of_ble_eq_true rfl) (Nat.le_of_ble_eq_true rfl) rfl rfl (Nat.le_of_ble_eq_true rfl) dL_law_12 rfl ?_
  rintro _ ⟨M, rfl, RM⟩
  refine n_w (mw_up g _ M) ?_
  refine n_astore_n h (q := 16) (loc' := [(2, _), (1, _), (0, _)]) (by decide) rfl dL_law_15 rfl ?_
  refine n_iconst h (q := 17) (nI 0) (by decide) dL_law_16 rfl ?_
  refine n_istore_n h (q := 18) (loc' := LOC g b 0) (by decide) rfl dL_law_17 rfl ?_
  refine n_ns (n' := 77) (sl' := 9596) rfl rfl ?_
  exact law_loop h hX hL hend (L + 3) 0 sg0 X M (by decide) (by omega) SI_0 RX RM
set_option maxHeartbeats 4000000 in
set_option maxRecDepth 100000 in
theorem whole_start {p : Program} {e : Env} {s : State} {m : MethodId} {below : List Frame} {meth : Method} {c : Code} (l : Launch) (hflags : l.flags = flags0) {b L : Nat} {xs : Nat → Int32} (hL : L ≤ 1536) (C0 : lw_At p s m meth c b L xs) : W p l e room_1 s m #[Value.ref b] below meth c s.heap [] 0 0 (lw_Z below #[Value.ref b] s) (entryFrame m ([Value.ref b] : List Value).toArray 4) := by
  obtain ⟨g, rfl, hgr, hgA, hD, hSt⟩ := law_g l C0
  obtain ⟨hx, hb, hr, hml, hown, hts, hX, hbl, hlocks, hgv⟩ := id C0
  have hjt : ∀ w ∈ jtb, w.before #[Value.ref b] s = true := fun w hw => hts w (List.mem_filter.mp hw).1
  have h : jH g (p, e, s, m, #[Value.ref b], below, meth, c) RL cL_law 4 (some .boolean) := ⟨hx, hb, hml, hr, hlocks, hown, hjt, hD, hSt⟩
  have hl := lv_entry [Value.ref b] (n := 4) (Nat.le_of_ble_eq_true rfl)
  rw [lg_entry_eq]
  have J1 : JN g room_1 (p, e, s, m, #[Value.ref b], below, meth, c) 4 (lw_Z below #[Value.ref b] s) 0 [(0, .ref b)] [] DW 0 0 := by
    refine law_start h (fun q hq => (hgA q).mpr hq) (va_AO.of (hts _ tb_over)) hgr ⟨hX, hbl, fun z => absurd ((hgA b).mp z) (Nat.not_le.mpr hbl)⟩ hL ?_
    intro loc w H locs ls hP hS hl
    refine va_forget (fun q hq => (hgA _).mp (hS.2.2 q hq)) ?_
    refine W.widen (k := 600000) (n := 7302250) (Nat.le_of_ble_eq_true rfl) (Nat.le_of_ble_eq_true rfl) ?_
    exact lw_ret hx hb hr hlocks dL_law_662
  exact J1 s.heap [] _ (jl_P.mpr (fun p hp hl => by cases hl)) va_S.rf hl
