/-! TwinPatience(): its cells in the order in which they come. -/
def ord (p : Nat) : Nat := if p < 1 then 0 else if p < 2 then 18 else if p < 7 then p + 11 else if p < 19 then p - 6 else p
def iord (k : Nat) : Nat := if k < 1 then 0 else if k < 13 then k + 6 else if k < 18 then k - 11 else if k < 19 then 1 else k
theorem ord_inj : ∀ p, p < 67 → ∀ q, q < 67 → ord p = ord q → p = q := by decide +kernel
theorem ord_iord : ∀ k, k < 67 → iord k < 67 ∧ ord (iord k) = k := by decide +kernel
abbrev Xz : Xs := (Tz, Tz, fun _ => Tz, fun _ => Tz, fun _ => 0, fun _ => 0, 0, fun _ => 0, 0, 0)
abbrev rowE (g : jG) (n : Nat) (f : Nat → Option Nat) : va_E := .inl (gT g, n, .inr (.inr (.inr (.inr f))))
def xz (g : jG) (w : jW) (f2 f3 : Nat → Option Nat) (p : Nat) : va_E := if p = 2 then rowE g 6 f2 else if p = 3 then rowE g 2 f3 else xw g w Xz p
/-- after k new cells -/
def xst (g : jG) (w : jW) (k : Nat) (fs : List Value) (f2 f3 : Nat → Option Nat) : jW := fun p => if p = 0 then .inr (2, fs) else if p < 67 ∧ ord p ≤ k then xz g w f2 f3 p else w p
theorem xst_0 (g : jG) (w : jW) (k : Nat) (fs : List Value) (f2 f3 : Nat → Option Nat) : xst g w k fs f2 f3 0 = .inr (2, fs) := if_pos rfl
theorem xst_p (g : jG) (w : jW) (k : Nat) (fs fs' : List Value) (f2 f3 : Nat → Option Nat) : va_up (xst g w k fs f2 f3) 0 (.inr (2, fs')) = xst g w k fs' f2 f3 := by
  funext p
  unfold xst va_up
  dsimp only
  by_cases hp : p = 0
  · rw [if_pos hp, if_pos hp]
  · rw [if_neg hp, if_neg hp, if_neg hp]
theorem xst_s {g : jG} {w : jW} {fs : List Value} {f2 f3 : Nat → Option Nat} (h : w 0 = .inr (2, fs)) : w = xst g w 0 fs f2 f3 := by
  funext p
  unfold xst
  by_cases hp : p = 0
  · rw [if_pos hp, hp]; exact h
  · rw [if_neg hp]
    by_cases h2 : p < 67 ∧ ord p ≤ 0
    · exact absurd (ord_inj p h2.1 0 (by decide) (by have : ord 0 = 0 := rfl; omega)) hp
    · rw [if_neg h2]
theorem xst_n {g : jG} {w : jW} {k : Nat} {fs : List Value} {f2 f3 : Nat → Option Nat} {z : Nat} {c : va_E} (hz : z < 67) (hz0 : z ≠ 0) (ho : ord z = k + 1) (hc : xz g w f2 f3 z = c) : va_up (xst g w k fs f2 f3) z c = xst g w (k + 1) fs f2 f3 := by
  funext p
  unfold xst va_up
  dsimp only
  by_cases hp : p = z
  · subst hp
    rw [if_pos rfl, if_neg hz0, if_pos ⟨hz, by omega⟩, hc]
  · rw [if_neg hp]
    by_cases h0 : p = 0
    · rw [if_pos h0, if_pos h0]
    · rw [if_neg h0, if_neg h0]
      by_cases h2 : p < 67 ∧ ord p ≤ k
      · rw [if_pos h2, if_pos ⟨h2.1, by omega⟩]
      · rw [if_neg h2, if_neg (fun z2 => h2 ⟨z2.1, Nat.le_of_not_lt (fun z3 => hp (ord_inj p z2.1 z hz (by omega)))⟩)]
theorem xtab_z : ∀ p, xtab Xz p = Tz := by
  intro p
  unfold xtab
  split
  · rfl
  · split
    · rfl
    · split <;> rfl
theorem xz_t (g : jG) (w : jW) (f2 f3 : Nat → Option Nat) {i j : Nat} (hi : i < 10) (hj : j < 6) : xz g w f2 f3 (7 + 6 * i + j) = tcell g (7 + 6 * i) Tz j := by
  unfold xz
  rw [if_neg (by omega), if_neg (by omega), xw_t g w Xz hi hj, xtab_z]
theorem xst_t {g : jG} {w : jW} {k : Nat} {fs : List Value} {f2 f3 : Nat → Option Nat} {i : Nat} {c : va_E} (hi : i < 10) (ho : ∀ j, j < 6 → ord (7 + 6 * i + j) = k + 1 + j) : tab g (va_up (xst g w k fs f2 f3) (7 + 6 * i) c) (7 + 6 * i) Tz = xst g w (k + 6) fs f2 f3 := by
  funext p
  by_cases hp : 7 + 6 * i ≤ p ∧ p < 7 + 6 * i + 6
  · obtain ⟨j, hj, rfl⟩ : ∃ j, j < 6 ∧ p = 7 + 6 * i + j := ⟨p - (7 + 6 * i), by omega, by omega⟩
    rw [tab_k _ _ _ _ _ hj]
    unfold xst
    have hoj := ho j hj
    rw [if_neg (by omega), if_pos ⟨by omega, by omega⟩, xz_t g w f2 f3 hi hj]
  · rw [tab_ne _ _ _ _ (by omega), up_ne _ _ (by omega)]
    unfold xst
    by_cases h0 : p = 0
    · rw [if_pos h0, if_pos h0]
    · rw [if_neg h0, if_neg h0]
      by_cases h2 : p < 67 ∧ ord p ≤ k
      · rw [if_pos h2, if_pos ⟨h2.1, by omega⟩]
      · rw [if_neg h2, if_neg (fun z2 => h2 ⟨z2.1, Nat.le_of_not_lt (fun z3 => hp (by
          have hoj := ho (ord p - k - 1) (by omega)
          have e := ord_inj p z2.1 (7 + 6 * i + (ord p - k - 1)) (by omega) (by omega)
          omega))⟩)]
theorem xst_pad {g : jG} {w : jW} {fs : List Value} {f2 f3 : Nat → Option Nat} {c : va_E} : gst (pcell g) 0 (va_up (xst g w 15 fs f2 f3) 5 c) 5 1 [.ref (gr g 6), .int 0] = xst g w 17 fs f2 f3 := by
  rw [show gst (pcell g) 0 (va_up (xst g w 15 fs f2 f3) 5 c) 5 1 [.ref (gr g 6), .int 0] = va_up (va_up (xst g w 15 fs f2 f3) 5 (xpad g 0)) 6 (.inl (gI g, 60, .inl (fun _ => 0))) from ?_]
  · rw [xst_n (k := 15) (z := 5) (c := xpad g 0) (by decide) (by decide) (by decide) rfl, xst_n (k := 16) (z := 6) (c := .inl (gI g, 60, .inl (fun _ => 0))) (by decide) (by decide) (by decide) rfl]
  · funext p
    unfold gst va_up
    try dsimp only
    by_cases h5 : p = 5
    · subst h5; rfl
    · rw [if_neg h5]
      by_cases h6 : p = 6
      · subst h6; rfl
      · rw [if_neg (by omega), if_neg h5, if_neg h6, if_neg h5]
theorem xst_2 {g : jG} {w : jW} {k : Nat} {fs : List Value} {f2 f3 : Nat → Option Nat} (h : 13 ≤ k) : xst g w k fs f2 f3 2 = rowE g 6 f2 := by
  unfold xst
  rw [if_neg (by decide), if_pos ⟨by decide, by have : ord 2 = 13 := rfl; omega⟩]
  rfl
theorem xst_3 {g : jG} {w : jW} {k : Nat} {fs : List Value} {f2 f3 : Nat → Option Nat} (h : 14 ≤ k) : xst g w k fs f2 f3 3 = rowE g 2 f3 := by
  unfold xst
  rw [if_neg (by decide), if_pos ⟨by decide, by have : ord 3 = 14 := rfl; omega⟩]
  rfl
theorem xst_2p {g : jG} {w : jW} {k : Nat} {fs : List Value} {f2 f3 f2' : Nat → Option Nat} (h : 13 ≤ k) : va_up (xst g w k fs f2 f3) 2 (rowE g 6 f2') = xst g w k fs f2' f3 := by
  funext p
  by_cases hp : p = 2
  · subst hp; rw [up_at, xst_2 h]
  · rw [up_ne _ _ hp]
    unfold xst xz
    rw [if_neg hp, if_neg hp]
theorem xst_3p {g : jG} {w : jW} {k : Nat} {fs : List Value} {f2 f3 f3' : Nat → Option Nat} (h : 14 ≤ k) : va_up (xst g w k fs f2 f3) 3 (rowE g 2 f3') = xst g w k fs f2 f3' := by
  funext p
  by_cases hp : p = 3
  · subst hp; rw [up_at, xst_3 h]
  · rw [up_ne _ _ hp]
    unfold xst xz
    by_cases h2 : p = 2
    · rw [if_pos h2, if_pos h2]
    · rw [if_neg h2, if_neg h2, if_neg hp, if_neg hp]
theorem tcell_live (g : jG) (t : Nat) (T : Ts) (k : Nat) : liveE (tcell g t T k) = true := by
  unfold tcell
  split <;> rfl
theorem xw_live (g : jG) (w : jW) (X : Xs) {p : Nat} (h : p < 67) : liveE (xw g w X p) = true := by
  unfold xw
  by_cases h7 : p < 7
  · rw [if_pos h7]; unfold xcell; split <;> rfl
  · rw [if_neg h7, if_pos h]; exact tcell_live _ _ _ _
theorem xst_live (g : jG) (w : jW) (k : Nat) (fs : List Value) (f2 f3 : Nat → Option Nat) {p : Nat} (h : p < 67) (ho : ord p ≤ k) : liveE (xst g w k fs f2 f3 p) = true := by
  unfold xst
  by_cases h0 : p = 0
  · rw [if_pos h0]; rfl
  · rw [if_neg h0, if_pos ⟨h, ho⟩]
    unfold xz
    split
    · rfl
    · split
      · rfl
      · exact xw_live g w Xz h
theorem xst_low {g : jG} {w : jW} {k : Nat} {fs : List Value} {f2 f3 : Nat → Option Nat} {K : jK} {sz : Nat} (hZ : jZ K = sz) (hgr : ∀ p, p < 67 → gr g p + 1 = sz + ord p) (hk : k < 67) : jLow g K (xst g w k fs f2 f3) k := by
  obtain ⟨h1, h2⟩ := ord_iord k hk
  refine Or.inr ⟨iord k, Nat.lt_trans h1 (by decide), xst_live g w k fs f2 f3 h1 (Nat.le_of_eq h2), ?_⟩
  rw [hgr _ h1, h2, hZ]
theorem n_ns {g : jG} {R : Room} {K : jK} {nL : Nat} {Q : State → Prop} {pc : Nat} {loc : List (Nat × Value)} {stk : List Value} {w : jW} {n sl n' sl' : Nat} (h1 : n = n') (h2 : sl = sl') (k : JN g R K nL Q pc loc stk w n' sl') : JN g R K nL Q pc loc stk w n sl := by
  subst h1; subst h2; exact k
theorem dfX1 : ∀ j, j < 9 → defaultValue (tyX1 j) = vp_V T0s j := by
  intro j hj
  rcases (show j = 0 ∨ j = 1 ∨ j = 2 ∨ j = 3 ∨ j = 4 ∨ j = 5 ∨ j = 6 ∨ j = 7 ∨ j = 8 by omega) with rfl | rfl | rfl | rfl | rfl | rfl | rfl | rfl | rfl <;> rfl
theorem dfX0 : ∀ j, j < 2 → defaultValue (tyX0 j) = vp_V P0s j := by
  intro j hj
  rcases (show j = 0 ∨ j = 1 by omega) with rfl | rfl <;> rfl
set_option maxHeartbeats 4000000 in
/-- new Table(), dup, the constructor -/
theorem n_newTab {g : jG} {w : jW} {K : jK} {R : Room} {Q : State → Prop} {r : Option FieldType} (h : jH g K RX2 cX2_init 2 r) (hA : jA g K) (hO : jO K) {sz : Nat} (hZ : jZ K = sz) (hgr : ∀ p, p < 67 → gr g p + 1 = sz + ord p) {i k sl : Nat} (hi : i < 10) (ho : ∀ j, j < 6 → ord (7 + 6 * i + j) = k + 1 + j) {fs : List Value} {f2 f3 : Nat → Option Nat} {pc q : Nat} {loc : List (Nat × Value)} {rest : List Value} (hfr : 2 ≤ R.frames) (hlc : 80 ≤ R.locals) (hcl : k + 6 ≤ R.cells) (hsl : sl + 693 ≤ R.slots) (hcat : (rest.map fun v => v.category).sum ≤ 7)
    (hd1 : decode cX2_init pc = .ok (.new 7, 3)) (hd2 : decode cX2_init (pc + 3) = .ok (.dup, 1)) (hd3 : decode cX2_init (pc + 3 + 1) = .ok (.invokespecial 9, 3)) (hq : pc + 3 + 1 + 3 = q) (kk : JN g R K 2 Q q loc (.ref (gr g (7 + 6 * i)) :: rest) (xst g w (k + 6) fs f2 f3) (k + 6) (sl + 693)) : JN g R K 2 Q pc loc rest (xst g w k fs f2 f3) k sl := by
  have hz1 : 7 + 6 * i < NW := nwz hi
  have e0 := hgr (7 + 6 * i) (by omega)
  have o0 : ord (7 + 6 * i) = k + 1 := ho 0 (by decide)
  have ok : k < 67 := by
    have h1 := ho 5 (by decide)
    have h2 : ∀ p, p < 67 → ord p < 67 := by decide +kernel
    have h3 := h2 (7 + 6 * i + 5) (by omega)
    omega
  refine n_new h (q := pc + 3) (z := 7 + 6 * i) (C := RX1) (T := TX1) (N := 9) (ci := 1) (fs := T0s) inX1 tyX1_ok mK_X2_7 mK_X1_in mN_X1 rfl dfX1 (by omega) (by omega) (by rw [hZ]; omega) (xst_low hZ hgr ok) hd1 rfl ?_
  refine n_dup h (q := pc + 3 + 1) rfl hd2 rfl ?_
  refine n_cIN (d' := 1) (mc := 5) (ms := 684) (sz := jZ K + (k + 1)) h hA hO mo_X1_init rfl mI_X1_init mL_X2_9 (C_X1_init g _ (7 + 6 * i) (jZ K + (k + 1)) (nw6 hi) (up_at _ _ _) (fun j hj => by
    have e1 := hgr (7 + 6 * i + (j + 1)) (by omega)
    have e2 := ho (j + 1) (by omega)
    rw [hZ]; omega)) rfl (Or.inr ⟨7 + 6 * i, hz1, by rw [up_at]; rfl, by rw [hZ]; omega⟩) hfr hlc (by omega) (by omega) rfl rfl (by show 1 + (rest.map fun v => v.category).sum ≤ 8; omega) hd3 hq ?_
  rintro _ rfl
  refine n_w (xst_t hi ho) ?_
  exact n_ns (by omega) (by omega) kk
def frw (g : jG) (b i : Nat) : Nat → Option Nat := fun j => if j < i then some (gr g (b + 6 * j)) else none
theorem frw_u (g : jG) (b i : Nat) : va_up (frw g b i) i (some (gr g (b + 6 * i))) = frw g b (i + 1) := by
  funext j
  unfold frw va_up
  dsimp only
  by_cases h : j = i
  · subst h; rw [if_pos rfl, if_pos (by omega)]
  · rw [if_neg h]
    by_cases h2 : j < i
    · rw [if_pos h2, if_pos (by omega)]
    · rw [if_neg h2, if_neg (by omega)]
theorem frw_0 (g : jG) (b : Nat) : (fun _ => none : Nat → Option Nat) = frw g b 0 := by
  funext j
  unfold frw
  rw [if_neg (by omega)]
abbrev RM2 : Room := { frames := 5, cells := 66, slots := 7172, locals := 40 * 5 }
abbrev Fx (g : jG) : List Value := [.ref (gr g 7), .ref (gr g 13), .ref (gr g 2), .ref (gr g 3), .ref (gr g 4), .ref (gr g 5), .ref (gr g 1), .int 0, .int 0]
abbrev T1s (g : jG) (t : Nat) : List Value := [.ref (gr g (t + 1)), .ref (gr g (t + 2)), .ref (gr g (t + 3)), .ref (gr g (t + 4)), .ref (gr g (t + 5)), .int 0, .int 0, .int 0, .int 0]
theorem xst_tt {g : jG} {w : jW} {k : Nat} {fs : List Value} {f2 f3 : Nat → Option Nat} {i : Nat} (hi : i < 10) (ho : ord (7 + 6 * i) ≤ k) : xst g w k fs f2 f3 (7 + 6 * i) = .inr (1, T1s g (7 + 6 * i)) := by
  unfold xst
  rw [if_neg (by omega), if_pos ⟨by omega, ho⟩]
  exact xz_t g w f2 f3 hi (j := 0) (by decide)
set_option maxHeartbeats 4000000 in
set_option maxRecDepth 100000 in
theorem lp_n1 {g : jG} {w : jW} {K : jK} {Q : State → Prop} (h : jH g K RX2 cX2_init 2 none) (hA : jA g K) (hO : jO K) {sz : Nat} (hZ : jZ K = sz) (hgr : ∀ p, p < 67 → gr g p + 1 = sz + ord p)
    (kk : JN g RM2 K 2 Q 110 [(1, .int (nI 6)), (0, .ref (gr g 0))] [] (xst g w 54 (Fx g) (frw g 19 6) (fun _ => none)) 54 5786) : ∀ n i, i + n = 6 → JN g RM2 K 2 Q 82 [(1, .int (nI i)), (0, .ref (gr g 0))] [] (xst g w (18 + 6 * i) (Fx g) (frw g 19 i) (fun _ => none)) (18 + 6 * i) (1628 + 693 * i) := by
  intro n
  induction n with
  | zero =>
    intro i hin
    have hi : i = 6 := by omega
    subst hi
    refine n_iload_n h (q := 83) 0 rfl dX2_init_82 rfl ?_
    refine n_aload_n h (q := 84) 1 rfl dX2_init_83 rfl ?_
    refine n_get h (q := 87) inX2 (C := RX2) (T := TX2) (N := 9) (ci := 2) rfl 2 (by decide) mF_X2_19 (by decide) (xst_0 _ _ _ _ _ _) rfl dX2_init_84 rfl ?_
    refine n_alen h (q := 88) 2 (nI 6) (by decide) (xst_2 (by decide)) rfl rfl dX2_init_87 rfl ?_
    refine n_icmp_ge h (tgt := 110) (q := 91) dX2_init_88 rfl (by decide) (fun c1 => ?_) (fun c1 => ?_)
    · exact kk
    · exact absurd (nI_le (Nat.le_refl 6) (by decide)) c1
  | succ n ih =>
    intro i hin
    have hi : i < 6 := by omega
    refine n_iload_n h (q := 83) 0 rfl dX2_init_82 rfl ?_
    refine n_aload_n h (q := 84) 1 rfl dX2_init_83 rfl ?_
    refine n_get h (q := 87) inX2 (C := RX2) (T := TX2) (N := 9) (ci := 2) rfl 2 (by decide) mF_X2_19 (by decide) (xst_0 _ _ _ _ _ _) rfl dX2_init_84 rfl ?_
    refine n_alen h (q := 88) 2 (nI 6) (by decide) (xst_2 (by omega)) rfl rfl dX2_init_87 rfl ?_
    refine n_icmp_ge h (tgt := 110) (q := 91) dX2_init_88 rfl (by decide) (fun c1 => ?_) (fun c1 => ?_)
    · exact absurd ((nI_leI (by decide) (by omega)).mp c1) (by omega)
    refine n_aload_n h (q := 92) 1 rfl dX2_init_91 rfl ?_
    refine n_get h (q := 95) inX2 (C := RX2) (T := TX2) (N := 9) (ci := 2) rfl 2 (by decide) mF_X2_19 (by decide) (xst_0 _ _ _ _ _ _) rfl dX2_init_92 rfl ?_
    refine n_iload_n h (q := 96) 0 rfl dX2_init_95 rfl ?_
    refine n_newTab h hA hO hZ hgr (i := 2 + i) (q := 103) (by omega) (fun j hj => by
      unfold ord
      rw [if_neg (by omega), if_neg (by omega), if_neg (by omega), if_neg (by omega)]
      omega) (Nat.le_of_ble_eq_true rfl) (Nat.le_of_ble_eq_true rfl) (by show _ ≤ 66; omega) (by show _ ≤ 7172; omega) (Nat.le_of_ble_eq_true rfl) dX2_init_96 dX2_init_99 dX2_init_100 rfl ?_
    refine n_aast h (q := 104) (z := 2) (y := 7 + 6 * (2 + i)) (by decide) (xst_2 (by omega)) (nwz (by omega)) (fs := T1s g (7 + 6 * (2 + i))) (xst_tt (by omega) (by
      unfold ord
      rw [if_neg (by omega), if_neg (by omega), if_neg (by omega), if_neg (by omega)]
      omega)) (vp_in_nI hi (by decide)) dX2_init_103 rfl ?_
    refine n_w (xst_2p (by omega)) ?_
    rw [nI_clamp (show i < 2 ^ 31 by omega), show 7 + 6 * (2 + i) = 19 + 6 * i by omega, frw_u g 19 i]
    refine n_iinc h (q := 107) (a := 1) 0 (nI (i + 1)) rfl (show nI i + Int32.ofInt 1 = nI (i + 1) from nI_1 i) (by decide) rfl dX2_init_104 rfl ?_
    refine n_goto h (tgt := 82) dX2_init_107 (by decide) ?_
    exact ih (i + 1) (by omega)
set_option maxHeartbeats 4000000 in
set_option maxRecDepth 100000 in
theorem lp_n2 {g : jG} {w : jW} {K : jK} {Q : State → Prop} (h : jH g K RX2 cX2_init 2 none) (hA : jA g K) (hO : jO K) {sz : Nat} (hZ : jZ K = sz) (hgr : ∀ p, p < 67 → gr g p + 1 = sz + ord p)
    (kk : JN g RM2 K 2 Q 140 [(1, .int (nI 2)), (0, .ref (gr g 0))] [] (xst g w 66 (Fx g) (frw g 19 6) (frw g 55 2)) 66 7172) : ∀ n i, i + n = 2 → JN g RM2 K 2 Q 112 [(1, .int (nI i)), (0, .ref (gr g 0))] [] (xst g w (54 + 6 * i) (Fx g) (frw g 19 6) (frw g 55 i)) (54 + 6 * i) (5786 + 693 * i) := by
  intro n
  induction n with
  | zero =>
    intro i hin
    have hi : i = 2 := by omega
    subst hi
    refine n_iload_n h (q := 113) 0 rfl dX2_init_112 rfl ?_
    refine n_aload_n h (q := 114) 1 rfl dX2_init_113 rfl ?_
    refine n_get h (q := 117) inX2 (C := RX2) (T := TX2) (N := 9) (ci := 2) rfl 3 (by decide) mF_X2_23 (by decide) (xst_0 _ _ _ _ _ _) rfl dX2_init_114 rfl ?_
    refine n_alen h (q := 118) 2 (nI 2) (by decide) (xst_3 (by decide)) rfl rfl dX2_init_117 rfl ?_
    refine n_icmp_ge h (tgt := 140) (q := 121) dX2_init_118 rfl (by decide) (fun c1 => ?_) (fun c1 => ?_)
    · exact kk
    · exact absurd (nI_le (Nat.le_refl 2) (by decide)) c1
  | succ n ih =>
    intro i hin
    have hi : i < 2 := by omega
    refine n_iload_n h (q := 113) 0 rfl dX2_init_112 rfl ?_
    refine n_aload_n h (q := 114) 1 rfl dX2_init_113 rfl ?_
    refine n_get h (q := 117) inX2 (C := RX2) (T := TX2) (N := 9) (ci := 2) rfl 3 (by decide) mF_X2_23 (by decide) (xst_0 _ _ _ _ _ _) rfl dX2_init_114 rfl ?_
    refine n_alen h (q := 118) 2 (nI 2) (by decide) (xst_3 (by omega)) rfl rfl dX2_init_117 rfl ?_
    refine n_icmp_ge h (tgt := 140) (q := 121) dX2_init_118 rfl (by decide) (fun c1 => ?_) (fun c1 => ?_)
    · exact absurd ((nI_leI (by decide) (by omega)).mp c1) (by omega)
    refine n_aload_n h (q := 122) 1 rfl dX2_init_121 rfl ?_
    refine n_get h (q := 125) inX2 (C := RX2) (T := TX2) (N := 9) (ci := 2) rfl 3 (by decide) mF_X2_23 (by decide) (xst_0 _ _ _ _ _ _) rfl dX2_init_122 rfl ?_
    refine n_iload_n h (q := 126) 0 rfl dX2_init_125 rfl ?_
    refine n_newTab h hA hO hZ hgr (i := 8 + i) (q := 133) (by omega) (fun j hj => by
      unfold ord
      rw [if_neg (by omega), if_neg (by omega), if_neg (by omega), if_neg (by omega)]
      omega) (Nat.le_of_ble_eq_true rfl) (Nat.le_of_ble_eq_true rfl) (by show _ ≤ 66; omega) (by show _ ≤ 7172; omega) (Nat.le_of_ble_eq_true rfl) dX2_init_126 dX2_init_129 dX2_init_130 rfl ?_
    refine n_aast h (q := 134) (z := 3) (y := 7 + 6 * (8 + i)) (by decide) (xst_3 (by omega)) (nwz (by omega)) (fs := T1s g (7 + 6 * (8 + i))) (xst_tt (by omega) (by
      unfold ord
      rw [if_neg (by omega), if_neg (by omega), if_neg (by omega), if_neg (by omega)]
      omega)) (vp_in_nI hi (by decide)) dX2_init_133 rfl ?_
    refine n_w (xst_3p (by omega)) ?_
    rw [nI_clamp (show i < 2 ^ 31 by omega), show 7 + 6 * (8 + i) = 55 + 6 * i by omega, frw_u g 55 i]
    refine n_iinc h (q := 137) (a := 1) 0 (nI (i + 1)) rfl (show nI i + Int32.ofInt 1 = nI (i + 1) from nI_1 i) (by decide) rfl dX2_init_134 rfl ?_
    refine n_goto h (tgt := 112) dX2_init_137 (by decide) ?_
    exact ih (i + 1) (by omega)
theorem arrV_cong {cI : ClassId} {N : Nat} {f f' : Nat → Value} (h : ∀ j, j < N → f j = f' j) : arrV cI N f = arrV cI N f' := by
  unfold arrV
  congr 1
  apply Array.ext
  · simp
  · intro j h1 h2
    have h3 : j < N := by simpa using h1
    simp only [Array.getElem_ofFn]
    exact h j h3
theorem rowE_cong {g : jG} {n : Nat} {f f' : Nat → Option Nat} (h : ∀ j, j < n → f j = f' j) {a : Nat} {H : Heap} (hat : va_at (gD g) vwCl (a, rowE g n f) H) : va_at (gD g) vwCl (a, rowE g n f') H := by
  have h1 : H[a]? = some (vp_cell (gT g) (n, .inr (.inr (.inr (.inr f))))) := hat
  show H[a]? = some (vp_cell (gT g) (n, .inr (.inr (.inr (.inr f')))))
  rw [h1, vp_cell_q, vp_cell_q]
  exact congrArg some (arrV_cong (fun j hj => by rw [h j hj]))
/-- another writing of the same world -/
theorem n_weq {g : jG} {R : Room} {K : jK} {nL : Nat} {Q : State → Prop} {pc : Nat} {loc : List (Nat × Value)} {stk : List Value} {w w' : jW} {n sl : Nat} (hw : ∀ p, p < NW → liveE (w' p) = true → liveE (w p) = true ∧ ∀ H, va_at (gD g) vwCl (gr g p, w p) H → va_at (gD g) vwCl (gr g p, w' p) H) (k : JN g R K nL Q pc loc stk w' n sl) : JN g R K nL Q pc loc stk w n sl := by
  obtain ⟨p, e, s, m, args, below, meth, c⟩ := K
  intro H locs ls hP hS hl
  exact k H locs ls (jl_P.mpr (fun p hp hlv => (hw p hp hlv).2 H (jl_P.mp hP p hp (hw p hp hlv).1))) hS hl
theorem xst_end {g : jG} {w : jW} : ∀ p, p < NW → liveE (xw g w Xz p) = true → liveE (xst g w 66 (Fx g) (frw g 19 6) (frw g 55 2) p) = true ∧ ∀ H, va_at (gD g) vwCl (gr g p, xst g w 66 (Fx g) (frw g 19 6) (frw g 55 2) p) H → va_at (gD g) vwCl (gr g p, xw g w Xz p) H := by
  intro p hp hl
  have hle : ∀ p, p < 67 → ord p ≤ 66 := by decide +kernel
  by_cases h67 : p < 67
  · refine ⟨xst_live g w 66 _ _ _ h67 (hle p h67), fun H => ?_⟩
    by_cases h0 : p = 0
    · subst h0; exact fun h => h
    · by_cases h2 : p = 2
      · subst h2
        rw [xst_2 (by decide), xw_2]
        exact rowE_cong (fun j hj => by unfold frw; rw [if_pos hj])
      · by_cases h3 : p = 3
        · subst h3
          rw [xst_3 (by decide), xw_3]
          exact rowE_cong (fun j hj => by unfold frw; rw [if_pos hj])
        · have e : xst g w 66 (Fx g) (frw g 19 6) (frw g 55 2) p = xw g w Xz p := by
            unfold xst xz
            rw [if_neg h0, if_pos ⟨h67, hle p h67⟩, if_neg h2, if_neg h3]
          rw [e]
          exact fun h => h
  · have e : xst g w 66 (Fx g) (frw g 19 6) (frw g 55 2) p = xw g w Xz p := by
      unfold xst xw
      rw [if_neg (by omega), if_neg (by omega), if_neg (by omega), if_neg h67]
    rw [e]
    exact ⟨hl, fun H h => h⟩
theorem XR_0 {T : Ts} (R : TR T (dealG 1)) : XR (yNow Xz T) sg0 :=
  ⟨R, rfl, ⟨0, by decide, rfl, fun i hi => absurd hi (Nat.not_lt_zero _)⟩, fun i _ => Or.inl ⟨rfl, rfl⟩, rfl, fun i hi => absurd hi (Nat.not_lt_zero _)⟩
set_option maxHeartbeats 8000000 in
set_option maxRecDepth 100000 in
/-- TwinPatience(): a new game, dealt by 1 -/
theorem C_X2_init (g : jG) (w : jW) (sz : Nat) (hw : w 0 = .inr (2, X0s)) (hgr : ∀ p, p < 67 → gr g p + 1 = sz + ord p) : ConC g 5 66 7172 yX2_init cX2_init 2 sz [.ref (gr g 0)] w (fun w9 => ∃ X, w9 = xw g w X ∧ XR X sg0) := by
  refine conC_of (by decide +kernel) rfl (Nat.le_of_ble_eq_true rfl) [(0, _)] rfl (fun K Q h hZ hA hO hi hend => ?_)
  have h : jH g K RX2 cX2_init 2 none := h
  refine n_w (xst_s (g := g) (f2 := fun _ => none) (f3 := fun _ => none) hw) ?_
  refine n_aload_n h (q := 1) 0 rfl dX2_init_0 rfl ?_
  refine n_objInit h (q := 4) mL_X2_1 (Nat.le_of_ble_eq_true rfl) (Nat.le_of_ble_eq_true rfl) dX2_init_1 rfl ?_
  refine n_aload_n h (q := 5) 0 rfl dX2_init_4 rfl ?_
  refine n_newTab h hA hO hZ hgr (i := 0) (q := 12) (by decide) (by decide +kernel) (Nat.le_of_ble_eq_true rfl) (Nat.le_of_ble_eq_true rfl) (Nat.le_of_ble_eq_true rfl) (Nat.le_of_ble_eq_true rfl) (Nat.le_of_ble_eq_true rfl) dX2_init_5 dX2_init_8 dX2_init_9 rfl ?_
  refine n_putF h (q := 15) inX2 (C := RX2) (T := TX2) (N := 9) (ci := 2) rfl tyX2_ok nmX2 0 (by decide) mF_X2_10 rfl hi rfl rfl rfl rfl (by decide) (xst_0 _ _ _ _ _ _) (Nat.le_of_ble_eq_true rfl) dX2_init_12 rfl ?_
  refine n_w (xst_p _ _ _ _ _ _ _) ?_
  refine n_aload_n h (q := 16) 0 rfl dX2_init_15 rfl ?_
  refine n_newTab h hA hO hZ hgr (i := 1) (q := 23) (by decide) (by decide +kernel) (Nat.le_of_ble_eq_true rfl) (Nat.le_of_ble_eq_true rfl) (Nat.le_of_ble_eq_true rfl) (Nat.le_of_ble_eq_true rfl) (Nat.le_of_ble_eq_true rfl) dX2_init_16 dX2_init_19 dX2_init_20 rfl ?_
  refine n_putF h (q := 26) inX2 (C := RX2) (T := TX2) (N := 9) (ci := 2) rfl tyX2_ok nmX2 1 (by decide) mF_X2_16 rfl hi rfl rfl rfl rfl (by decide) (xst_0 _ _ _ _ _ _) (Nat.le_of_ble_eq_true rfl) dX2_init_23 rfl ?_
  refine n_w (xst_p _ _ _ _ _ _ _) ?_
  refine n_aload_n h (q := 27) 0 rfl dX2_init_26 rfl ?_
  refine n_bipush h (q := 29) (6) (by decide) dX2_init_27 rfl ?_
  refine n_newq h hO (q := 32) (N := 6) (z := 2) mK_X2_7 (by decide) (by decide +kernel) (Nat.le_of_ble_eq_true rfl) (Nat.le_of_ble_eq_true rfl) (Nat.le_of_ble_eq_true rfl) (by have h1 := hgr 2 (by decide); have h2 : ord 2 = 13 := rfl; rw [hZ]; omega) (xst_low hZ hgr (by decide)) dX2_init_29 rfl ?_
  refine n_w (xst_n (z := 2) (by decide) (by decide) rfl rfl) ?_
  refine n_putF h (q := 35) inX2 (C := RX2) (T := TX2) (N := 9) (ci := 2) rfl tyX2_ok nmX2 2 (by decide) mF_X2_19 rfl hi rfl rfl rfl rfl (by decide) (xst_0 _ _ _ _ _ _) (Nat.le_of_ble_eq_true rfl) dX2_init_32 rfl ?_
  refine n_w (xst_p _ _ _ _ _ _ _) ?_
  refine n_aload_n h (q := 36) 0 rfl dX2_init_35 rfl ?_
  refine n_iconst h (q := 37) (2) (by decide) dX2_init_36 rfl ?_
  refine n_newq h hO (q := 40) (N := 2) (z := 3) mK_X2_7 (by decide) (by decide +kernel) (Nat.le_of_ble_eq_true rfl) (Nat.le_of_ble_eq_true rfl) (Nat.le_of_ble_eq_true rfl) (by have h1 := hgr 3 (by decide); have h2 : ord 3 = 14 := rfl; rw [hZ]; omega) (xst_low hZ hgr (by decide)) dX2_init_37 rfl ?_
  refine n_w (xst_n (z := 3) (by decide) (by decide) rfl rfl) ?_
  refine n_putF h (q := 43) inX2 (C := RX2) (T := TX2) (N := 9) (ci := 2) rfl tyX2_ok nmX2 3 (by decide) mF_X2_23 rfl hi rfl rfl rfl rfl (by decide) (xst_0 _ _ _ _ _ _) (Nat.le_of_ble_eq_true rfl) dX2_init_40 rfl ?_
  refine n_w (xst_p _ _ _ _ _ _ _) ?_
  refine n_aload_n h (q := 44) 0 rfl dX2_init_43 rfl ?_
  refine n_iconst h (q := 45) (2) (by decide) dX2_init_44 rfl ?_
  refine n_newz h (q := 47) (N := 2) (z := 4) (by decide) (by decide +kernel) (Nat.le_of_ble_eq_true rfl) (Nat.le_of_ble_eq_true rfl) (Nat.le_of_ble_eq_true rfl) (by have h1 := hgr 4 (by decide); have h2 : ord 4 = 15 := rfl; rw [hZ]; omega) (xst_low hZ hgr (by decide)) dX2_init_45 rfl ?_
  refine n_w (xst_n (z := 4) (by decide) (by decide) rfl rfl) ?_
  refine n_putF h (q := 50) inX2 (C := RX2) (T := TX2) (N := 9) (ci := 2) rfl tyX2_ok nmX2 4 (by decide) mF_X2_26 rfl hi rfl rfl rfl rfl (by decide) (xst_0 _ _ _ _ _ _) (Nat.le_of_ble_eq_true rfl) dX2_init_47 rfl ?_
  refine n_w (xst_p _ _ _ _ _ _ _) ?_
  refine n_aload_n h (q := 51) 0 rfl dX2_init_50 rfl ?_
  refine n_new h (q := 54) (z := 5) (C := RX0) (T := TX0) (N := 2) (ci := 0) (fs := P0s) inX0 tyX0_ok mK_X2_30 mK_X0_in mN_X0 rfl dfX0 (Nat.le_of_ble_eq_true rfl) (Nat.le_of_ble_eq_true rfl) (by have h1 := hgr 5 (by decide); have h2 : ord 5 = 16 := rfl; rw [hZ]; omega) (xst_low hZ hgr (by decide)) dX2_init_51 rfl ?_
  refine n_dup h (q := 55) rfl dX2_init_54 rfl ?_
  refine n_cIN (q := 58) (d' := 1) (mc := 1) (ms := 60) (sz := jZ K + 16) h hA hO mo_X0_init rfl mI_X0_init mL_X2_32 (C_X0_init g _ (jZ K + 16) (up_at _ _ _) (by have h1 := hgr 6 (by decide); have h2 : ord 6 = 17 := rfl; rw [hZ]; omega)) rfl (Or.inr ⟨5, by decide, by rw [up_at]; rfl, by have h1 := hgr 5 (by decide); have h2 : ord 5 = 16 := rfl; rw [hZ]; omega⟩) (Nat.le_of_ble_eq_true rfl) (Nat.le_of_ble_eq_true rfl) (Nat.le_of_ble_eq_true rfl) (Nat.le_of_ble_eq_true rfl) rfl rfl (Nat.le_of_ble_eq_true rfl) dX2_init_55 rfl ?_
  rintro _ rfl
  refine n_w xst_pad ?_
  refine n_putF h (q := 61) inX2 (C := RX2) (T := TX2) (N := 9) (ci := 2) rfl tyX2_ok nmX2 5 (by decide) mF_X2_33 rfl hi rfl rfl rfl rfl (by decide) (xst_0 _ _ _ _ _ _) (Nat.le_of_ble_eq_true rfl) dX2_init_58 rfl ?_
  refine n_w (xst_p _ _ _ _ _ _ _) ?_
  refine n_aload_n h (q := 62) 0 rfl dX2_init_61 rfl ?_
  refine n_sipush h (q := 65) (170) (by decide) dX2_init_62 rfl ?_
  refine n_ns (n' := 17) (sl' := 1458) rfl rfl ?_
  refine n_newa h (q := 67) (N := 170) (z := 1) (by decide) (by decide +kernel) (Nat.le_of_ble_eq_true rfl) (Nat.le_of_ble_eq_true rfl) (Nat.le_of_ble_eq_true rfl) (by have h1 := hgr 1 (by decide); have h2 : ord 1 = 18 := rfl; rw [hZ]; omega) (xst_low hZ hgr (by decide)) dX2_init_65 rfl ?_
  refine n_w (xst_n (z := 1) (by decide) (by decide) rfl rfl) ?_
  refine n_putF h (q := 70) inX2 (C := RX2) (T := TX2) (N := 9) (ci := 2) rfl tyX2_ok nmX2 6 (by decide) mF_X2_37 rfl hi rfl rfl rfl rfl (by decide) (xst_0 _ _ _ _ _ _) (Nat.le_of_ble_eq_true rfl) dX2_init_67 rfl ?_
  refine n_w (xst_p _ _ _ _ _ _ _) ?_
  refine n_aload_n h (q := 71) 0 rfl dX2_init_70 rfl ?_
  refine n_iconst h (q := 72) (0) (by decide) dX2_init_71 rfl ?_
  refine n_put h (q := 75) inX2 (C := RX2) (T := TX2) (N := 9) (ci := 2) rfl tyX2_ok nmX2 7 (by decide) mF_X2_41 rfl rfl rfl rfl (by decide) (xst_0 _ _ _ _ _ _) (Nat.le_of_ble_eq_true rfl) dX2_init_72 rfl ?_
  refine n_w (xst_p _ _ _ _ _ _ _) ?_
  refine n_aload_n h (q := 76) 0 rfl dX2_init_75 rfl ?_
  refine n_iconst h (q := 77) (0) (by decide) dX2_init_76 rfl ?_
  refine n_put h (q := 80) inX2 (C := RX2) (T := TX2) (N := 9) (ci := 2) rfl tyX2_ok nmX2 8 (by decide) mF_X2_45 rfl rfl rfl rfl (by decide) (xst_0 _ _ _ _ _ _) (Nat.le_of_ble_eq_true rfl) dX2_init_77 rfl ?_
  refine n_w (xst_p _ _ _ _ _ _ _) ?_
  refine n_iconst h (q := 81) (nI 0) (by decide) dX2_init_80 rfl ?_
  refine n_istore_n h (q := 82) (loc' := [(1, _), (0, _)]) (by decide) rfl dX2_init_81 rfl ?_
  refine n_w (w' := xst g w (18 + 6 * 0) (Fx g) (frw g 19 0) (fun _ => none)) (by rw [← frw_0]; rfl) ?_
  refine n_ns (n' := 18 + 6 * 0) (sl' := 1628 + 693 * 0) rfl rfl ?_
  refine lp_n1 h hA hO hZ hgr ?_ 6 0 rfl
  refine n_iconst h (q := 111) (nI 0) (by decide) dX2_init_110 rfl ?_
  refine n_istore_n h (q := 112) (loc' := [(1, _), (0, _)]) (by decide) rfl dX2_init_111 rfl ?_
  refine n_w (w' := xst g w (54 + 6 * 0) (Fx g) (frw g 19 6) (frw g 55 0)) (by rw [← frw_0]) ?_
  refine n_ns (n' := 54 + 6 * 0) (sl' := 5786 + 693 * 0) rfl rfl ?_
  refine lp_n2 h hA hO hZ hgr ?_ 2 0 rfl
  refine n_weq xst_end ?_
  refine n_aload_n h (q := 141) 1 rfl dX2_init_140 rfl ?_
  refine n_get h (q := 144) inX2 (C := RX2) (T := TX2) (N := 9) (ci := 2) rfl 0 (by decide) mF_X2_10 (by decide) (xw_0 _ _ _) rfl dX2_init_141 rfl ?_
  refine n_iconst h (q := 145) (nI 1) (by decide) dX2_init_144 rfl ?_
  refine n_cV h (q := 148) (C := RX1) (T := TX1) (N := 9) (ci := 1) mo_X1_dealBy mI_X1_dealBy mV_X1_dealBy mL_X2_48 (xw_con (i := 0) (by decide) (c_dealBy g _ _ (by decide) (xtab Xz (7 + 6 * 0)) (x := 1) rfl (by decide))) (Nat.le_of_ble_eq_true rfl) (Nat.le_of_ble_eq_true rfl) (Nat.le_of_ble_eq_true rfl) (Nat.le_of_ble_eq_true rfl) (by decide) (xw_r g _ _ (i := 0) (by decide)) rfl rfl rfl (Nat.le_of_ble_eq_true rfl) dX2_init_145 rfl ?_
  rintro _ w9 ⟨rfl, T2, rfl, R2⟩
  rw [xw_ut g w _ (show 0 < 10 by decide)]
  exact hend 148 dX2_init_148 _ _ ⟨_, rfl, XR_0 R2⟩
