abbrev uN (x : Int64) : Nat := x.toUInt64.toNat
abbrev cN (x : Int64) : Nat := (sgG 8 (uN x)).1
abbrev gN (x : Int64) : Prop := (sgG 8 (uN x)).2.1 = true ∧ (sgG 8 (uN x)).2.2 = 0
def putG (σ : Sg) (x : Int64) : Sg := (zg σ, zn σ, zh σ, zs σ, zl σ + cN x, fun j => if zl σ ≤ j then uN x / 256 ^ (cN x - 1 - (j - zl σ)) % 256 else zc σ j)
def spPut (σ : Sg) (x : Int64) : Int32 × Sg := if gN x ∧ cN x ≠ 0 then (if 60 < zl σ + cN x then (-4, σ) else (nI (zl σ + cN x), putG σ x)) else (-2, σ)
theorem cN_8 (x : Int64) : cN x ≤ 8 := sg_le 8 _
theorem SI_put {σ : Sg} (S : SI σ) {x : Int64} (hg : gN x) (h : ¬ 60 < zl σ + cN x) : SI (putG σ x) := by
  refine ⟨S.1, S.2.1, S.2.2.1, S.2.2.2.1, by show zl σ + cN x ≤ 60; omega, fun i hi => ?_⟩
  have hi2 : i < zl σ + cN x := hi
  show 33 ≤ (if zl σ ≤ i then uN x / 256 ^ (cN x - 1 - (i - zl σ)) % 256 else zc σ i) ∧ (if zl σ ≤ i then uN x / 256 ^ (cN x - 1 - (i - zl σ)) % 256 else zc σ i) ≤ 126
  by_cases z : zl σ ≤ i
  · rw [if_pos z]; exact sg_ok 8 (uN x) hg.1 _ (show cN x - 1 - (i - zl σ) < cN x by omega)
  · rw [if_neg z]; exact S.2.2.2.2.2 i (by omega)
theorem ap_in {f : Nat → Int32} {σ : Sg} {x : Int64} (h : ∀ i, i < zl σ → f i = nI (zc σ i)) {i : Nat} (hi : i < zl σ + cN x) : apR f (zl σ) (uN x) (cN x) (cN x) i = nI (if zl σ ≤ i then uN x / 256 ^ (cN x - 1 - (i - zl σ)) % 256 else zc σ i) := by
  unfold apR
  by_cases z : zl σ ≤ i
  · rw [if_pos ⟨z, hi⟩, if_pos z]
  · rw [if_neg (fun y => z y.1), if_neg z]; exact h i (by omega)
theorem XR_put {X : Xs} {σ : Sg} (R : XR X σ) (x : Int64) : XR (yLn (ySg X (apR (Xsg X) (zl σ) (uN x) (cN x) (cN x))) (nI (zl σ + cN x))) (putG σ x) :=
  ⟨R.1, R.2.1, R.2.2.1, R.2.2.2.1, rfl, fun i hi => ap_in R.2.2.2.2.2 hi⟩
theorem sgI_ok {x : Int64} (h : gN x) : sgI (sgG 8 (uN x)) 0 = nI (cN x) := by unfold sgI; rw [if_pos h, Nat.zero_add]
theorem sgI_no {x : Int64} (h : ¬ gN x) : sgI (sgG 8 (uN x)) 0 = -2 := by unfold sgI; rw [if_neg h]

set_option maxRecDepth 100000 in
set_option maxHeartbeats 4000000 in
theorem X_put (g : jG) (w : jW) (X : Xs) (σ : Sg) (S : SI σ) (R : XR X σ) (v : Int64)  : ConI g 2 yX2_put cX2_put 4 (some (.int)) [.ref (gr g 0), .long v] (xw g w X) (fun x w' => x = (spPut σ v).1 ∧ ∃ X', w' = xw g w X' ∧ XR X' (spPut σ v).2) := by
  refine con_of (by decide +kernel) (Nat.le_of_ble_eq_true rfl) [(0, _), (1, _)] rfl (fun K h => ?_)
  have h8 := cN_8 v
  have hL := S.2.2.2.2.1
  by_cases hg : gN v
  · by_cases h0 : cN v = 0
    · have hs : spPut σ v = (-2, σ) := if_neg (fun z => z.2 h0)
      refine j_lload_n h (q := 1) 1 dX2_put_0 rfl rfl ?_
      refine j_cS h (q := 4) mo_X0_signsIn mS_X0_signsIn mL_X2_177 (p_signsIn g _ v) (by decide) rfl rfl (Nat.le_of_ble_eq_true rfl) dX2_put_1 rfl ?_
      rintro _ w1 ⟨x1, rfl, e⟩
      obtain ⟨rfl, rfl⟩ := e
      rw [show sgI (sgG 8 v.toUInt64.toNat) 0 = nI (cN v) from sgI_ok hg]
      refine j_istore_n h (q := 5) (loc' := [(3, _), (0, _), (1, _)]) dX2_put_4 rfl (by decide) rfl ?_
      refine j_iload_n h (q := 6) 0 dX2_put_5 rfl rfl ?_
      refine j_iconst h (q := 7) (1) dX2_put_6 rfl (by decide) ?_
      refine j_icmp_ge h (tgt := 13) (q := 10) dX2_put_7 rfl (by decide) (fun c_7 => ?_) (fun c_7 => ?_)
      · exact absurd ((i_Lle (by omega) (by decide)).mp c_7) (by omega)
      refine j_bipush h (q := 12) (-2) dX2_put_10 rfl (by decide) ?_
      refine j_iret h rfl dX2_put_12 ?_
      refine ⟨_, rfl, by rw [hs], X, rfl, by rw [hs]; exact R⟩
    · by_cases h6 : 60 < zl σ + cN v
      · have hs : spPut σ v = (-4, σ) := by unfold spPut; rw [if_pos ⟨hg, h0⟩, if_pos h6]
        refine j_lload_n h (q := 1) 1 dX2_put_0 rfl rfl ?_
        refine j_cS h (q := 4) mo_X0_signsIn mS_X0_signsIn mL_X2_177 (p_signsIn g _ v) (by decide) rfl rfl (Nat.le_of_ble_eq_true rfl) dX2_put_1 rfl ?_
        rintro _ w1 ⟨x1, rfl, e⟩
        obtain ⟨rfl, rfl⟩ := e
        rw [show sgI (sgG 8 v.toUInt64.toNat) 0 = nI (cN v) from sgI_ok hg]
        refine j_istore_n h (q := 5) (loc' := [(3, _), (0, _), (1, _)]) dX2_put_4 rfl (by decide) rfl ?_
        refine j_iload_n h (q := 6) 0 dX2_put_5 rfl rfl ?_
        refine j_iconst h (q := 7) (1) dX2_put_6 rfl (by decide) ?_
        refine j_icmp_ge h (tgt := 13) (q := 10) dX2_put_7 rfl (by decide) (fun c_7 => ?_) (fun c_7 => ?_)
        rotate_left
        · exact absurd ((i_Lle (by omega) (by decide)).mpr (by omega)) c_7
        refine j_aload_n h (q := 14) 1 dX2_put_13 rfl rfl ?_
        refine j_get h (q := 17) inX2 (C := RX2) (T := TX2) (N := 9) (ci := 2) rfl 5 (by decide) mF_X2_33 (by decide) (xw_0 _ _ _) rfl dX2_put_14 rfl ?_
        refine j_get h (q := 20) inX0 (C := RX0) (T := TX0) (N := 2) (ci := 0) rfl 1 (by decide) mF_X2_95 (by decide) (xw_5 _ _ _) rfl dX2_put_17 rfl ?_
        rw [show Xln X = nI (zl σ) from R.2.2.2.2.1]
        refine j_iload_n h (q := 21) 0 dX2_put_20 rfl rfl ?_
        refine j_iadd h (q := 22) dX2_put_21 rfl ?_
        refine j_bipush h (q := 24) (60) dX2_put_22 rfl (by decide) ?_
        refine j_icmp_le h (tgt := 30) (q := 27) dX2_put_24 rfl (by decide) (fun c_24 => ?_) (fun c_24 => ?_)
        · rw [nI_add, i_leL (by omega) (by decide)] at c_24; omega
        refine j_bipush h (q := 29) (-4) dX2_put_27 rfl (by decide) ?_
        refine j_iret h rfl dX2_put_29 ?_
        refine ⟨_, rfl, by rw [hs], X, rfl, by rw [hs]; exact R⟩
      · have hs : spPut σ v = (nI (zl σ + cN v), putG σ v) := by unfold spPut; rw [if_pos ⟨hg, h0⟩, if_neg h6]
        refine j_lload_n h (q := 1) 1 dX2_put_0 rfl rfl ?_
        refine j_cS h (q := 4) mo_X0_signsIn mS_X0_signsIn mL_X2_177 (p_signsIn g _ v) (by decide) rfl rfl (Nat.le_of_ble_eq_true rfl) dX2_put_1 rfl ?_
        rintro _ w1 ⟨x1, rfl, e⟩
        obtain ⟨rfl, rfl⟩ := e
        rw [show sgI (sgG 8 v.toUInt64.toNat) 0 = nI (cN v) from sgI_ok hg]
        refine j_istore_n h (q := 5) (loc' := [(3, _), (0, _), (1, _)]) dX2_put_4 rfl (by decide) rfl ?_
        refine j_iload_n h (q := 6) 0 dX2_put_5 rfl rfl ?_
        refine j_iconst h (q := 7) (1) dX2_put_6 rfl (by decide) ?_
        refine j_icmp_ge h (tgt := 13) (q := 10) dX2_put_7 rfl (by decide) (fun c_7 => ?_) (fun c_7 => ?_)
        rotate_left
        · exact absurd ((i_Lle (by omega) (by decide)).mpr (by omega)) c_7
        refine j_aload_n h (q := 14) 1 dX2_put_13 rfl rfl ?_
        refine j_get h (q := 17) inX2 (C := RX2) (T := TX2) (N := 9) (ci := 2) rfl 5 (by decide) mF_X2_33 (by decide) (xw_0 _ _ _) rfl dX2_put_14 rfl ?_
        refine j_get h (q := 20) inX0 (C := RX0) (T := TX0) (N := 2) (ci := 0) rfl 1 (by decide) mF_X2_95 (by decide) (xw_5 _ _ _) rfl dX2_put_17 rfl ?_
        rw [show Xln X = nI (zl σ) from R.2.2.2.2.1]
        refine j_iload_n h (q := 21) 0 dX2_put_20 rfl rfl ?_
        refine j_iadd h (q := 22) dX2_put_21 rfl ?_
        refine j_bipush h (q := 24) (60) dX2_put_22 rfl (by decide) ?_
        refine j_icmp_le h (tgt := 30) (q := 27) dX2_put_24 rfl (by decide) (fun c_24 => ?_) (fun c_24 => ?_)
        rotate_left
        · rw [nI_add, i_leL (by omega) (by decide)] at c_24; omega
        refine j_aload_n h (q := 31) 1 dX2_put_30 rfl rfl ?_
        refine j_get h (q := 34) inX2 (C := RX2) (T := TX2) (N := 9) (ci := 2) rfl 5 (by decide) mF_X2_33 (by decide) (xw_0 _ _ _) rfl dX2_put_31 rfl ?_
        refine j_lload_n h (q := 35) 2 dX2_put_34 rfl rfl ?_
        refine j_iload_n h (q := 36) 0 dX2_put_35 rfl rfl ?_
        refine j_cV h (q := 39) (C := RX0) (T := TX0) (N := 2) (ci := 0) mo_X0_append mI_X0_append mV_X0_append mL_X2_181 (p_append g w X v (L := zl σ) (n := cN v) R.2.2.2.2.1 h8 (by omega)) (by decide) (by decide) (xw_5 _ _ _) rfl rfl rfl (Nat.le_of_ble_eq_true rfl) dX2_put_36 rfl ?_
        rintro _ w36 ⟨rfl, e⟩
        subst e
        refine j_aload_n h (q := 40) 1 dX2_put_39 rfl rfl ?_
        refine j_get h (q := 43) inX2 (C := RX2) (T := TX2) (N := 9) (ci := 2) rfl 5 (by decide) mF_X2_33 (by decide) (xw_0 _ _ _) rfl dX2_put_40 rfl ?_
        refine j_get h (q := 46) inX0 (C := RX0) (T := TX0) (N := 2) (ci := 0) rfl 1 (by decide) mF_X2_95 (by decide) (xw_5 _ _ _) rfl dX2_put_43 rfl ?_
        refine j_iret h rfl dX2_put_46 ?_
        exact ⟨_, rfl, by rw [hs], _, rfl, by rw [hs]; exact XR_put R v⟩
  · have hs : spPut σ v = (-2, σ) := if_neg (fun z => hg z.1)
    refine j_lload_n h (q := 1) 1 dX2_put_0 rfl rfl ?_
    refine j_cS h (q := 4) mo_X0_signsIn mS_X0_signsIn mL_X2_177 (p_signsIn g _ v) (by decide) rfl rfl (Nat.le_of_ble_eq_true rfl) dX2_put_1 rfl ?_
    rintro _ w1 ⟨x1, rfl, e⟩
    obtain ⟨rfl, rfl⟩ := e
    rw [show sgI (sgG 8 v.toUInt64.toNat) 0 = -2 from sgI_no hg]
    refine j_istore_n h (q := 5) (loc' := [(3, _), (0, _), (1, _)]) dX2_put_4 rfl (by decide) rfl ?_
    refine j_iload_n h (q := 6) 0 dX2_put_5 rfl rfl ?_
    refine j_iconst h (q := 7) (1) dX2_put_6 rfl (by decide) ?_
    refine j_icmp_ge h (tgt := 13) (q := 10) dX2_put_7 rfl (by decide) (fun c_7 => ?_) (fun c_7 => ?_)
    · exact absurd c_7 (by decide)
    refine j_bipush h (q := 12) (-2) dX2_put_10 rfl (by decide) ?_
    refine j_iret h rfl dX2_put_12 ?_
    refine ⟨_, rfl, by rw [hs], X, rfl, by rw [hs]; exact R⟩
