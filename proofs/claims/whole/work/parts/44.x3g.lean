def MX (M : Ms) (σ : Sg) : Prop :=
  MR (Mst M) (zg σ) ∧ Mrc M = nI (zn σ) ∧ (∀ i, i < zn σ → MR (fun j => Mhs M (224 * (zn σ - 1 - i) + j)) (zh σ i)) ∧
  (∀ i, i < 2 → (zs σ i = none ∧ Msv M i = 0) ∨ ∃ γ, zs σ i = some γ ∧ Msv M i = 1 ∧ MR (fun j => Msl M (224 * i + j)) γ) ∧ Mpl M = nI (zl σ) ∧ ∀ i, i < zl σ → Mpd M i = nI (zc σ i)
theorem MX_go {M M' : Ms} {σ : Sg} {γ γ' : Gm} (h : MX M (recG σ γ)) (k : KE M M') (R : MR (Mst M') γ') : MX M' (recG σ γ') := by
  obtain ⟨h1, h2, h3, h4, h5, h6⟩ := h
  obtain ⟨k1, k2, k3, k4, k5, k6, k7⟩ := k
  refine ⟨R, k2.trans h2, fun i hi => ?_, fun i hi => ?_, k6.trans h5, fun i hi => ?_⟩
  · rw [k1]; exact h3 i hi
  · rw [k3, k4]; exact h4 i hi
  · rw [k5]; exact h6 i hi
theorem MX_eq {M M' : Ms} {σ : Sg} (h : MX M σ) (k : KE M M') (e : Mst M' = Mst M) : MX M' σ := by
  obtain ⟨h1, h2, h3, h4, h5, h6⟩ := h
  obtain ⟨k1, k2, k3, k4, k5, k6, k7⟩ := k
  refine ⟨by rw [e]; exact h1, k2.trans h2, fun i hi => ?_, fun i hi => ?_, k6.trans h5, fun i hi => ?_⟩
  · rw [k1]; exact h3 i hi
  · rw [k3, k4]; exact h4 i hi
  · rw [k5]; exact h6 i hi
theorem mvR_in (f : Nat → Int32) (a : Nat) (u : Nat → Int32) (b : Nat) {j : Nat} (hj : j < 224) : mvR f a u b 224 (b + j) = f (a + j) := by
  unfold mvR; rw [if_pos (by omega), Nat.add_sub_cancel_left]
theorem mvR_out (f : Nat → Int32) (a : Nat) (u : Nat → Int32) (b : Nat) {j : Nat} (hj : j < b ∨ b + 224 ≤ j) : mvR f a u b 224 j = u j := by
  unfold mvR; rw [if_neg (by omega)]
def RH (hs : Nat → Int32) (r : Nat) (zh : Nat → Gm) : Prop := ∀ i, i < r → MR (fun j => hs (224 * (r - 1 - i) + j)) (zh i)
theorem RH_sh {f hs : Nat → Int32} {h : Nat → Gm} (R : RH hs 6 h) (G : ∀ i, i < 6 → GI (h i)) (e : ∀ j, j < 1120 → f j = hs (j + 224)) : RH f 5 h := by
  intro i hi
  refine MR_cong (R i (by omega)) (G i (by omega)) (fun j hj => ?_)
  show f (224 * (5 - 1 - i) + j) = hs (224 * (6 - 1 - i) + j)
  rw [e _ (by omega)]
  congr 1; omega
theorem RH_up {hs st : Nat → Int32} {r : Nat} {h : Nat → Gm} {γ : Gm} (R : RH hs r h) (G : ∀ i, i < r → GI (h i)) (Rg : MR st γ) (Gg : GI γ) : RH (mvR st 0 hs (r * 224) 224) (r + 1) (fun i => if i = 0 then γ else h (i - 1)) := by
  intro i hi
  show MR (fun j => mvR st 0 hs (r * 224) 224 (224 * (r + 1 - 1 - i) + j)) (if i = 0 then γ else h (i - 1))
  by_cases z : i = 0
  · rw [if_pos z]
    refine MR_cong Rg Gg (fun j hj => ?_)
    show mvR st 0 hs (r * 224) 224 (224 * (r + 1 - 1 - i) + j) = st j
    rw [show 224 * (r + 1 - 1 - i) + j = r * 224 + j by omega, mvR_in _ _ _ _ hj, Nat.zero_add]
  · rw [if_neg z]
    refine MR_cong (R (i - 1) (by omega)) (G (i - 1) (by omega)) (fun j hj => ?_)
    show mvR st 0 hs (r * 224) 224 (224 * (r + 1 - 1 - i) + j) = hs (224 * (r - 1 - (i - 1)) + j)
    rw [show r + 1 - 1 - i = r - 1 - (i - 1) by omega, mvR_out _ _ _ _ (by omega)]

set_option maxRecDepth 100000 in
set_option maxHeartbeats 4000000 in
theorem lp_rec (g : jG) (w : jW) (M : Ms) {K : jK} {Φ : Option Value → jW → Prop} (h : jH g K RX3 cX3_record 2 none) (k : ∀ f l, (∀ j, j < 1120 → f j = Mhs M (j + 224)) → J g 1 K 2 Φ 40 ([(1, .int (nI 1120)), (0, .ref (gr g 67))] ++ l) [] (mw g w (shs M f))) : ∀ n i f, i + n = 1120 → ((∀ j, j < i → f j = Mhs M (j + 224)) ∧ ∀ j, i ≤ j → f j = Mhs M j) → J g 1 K 2 Φ 11 [(1, .int (nI i)), (0, .ref (gr g 67))] [] (mw g w (shs M f)) := by
  intro n
  induction n with
  | zero =>
    intro i f hi hT
    have hiN : i = 1120 := by omega
    subst hiN
    refine j_iload_n h (q := 12) 0 dX3_record_11 rfl rfl ?_
    refine j_sipush h (q := 15) (1120) dX3_record_12 rfl (by decide) ?_
    refine j_icmp_ge h (tgt := 40) (q := 18) dX3_record_15 rfl (by decide) (fun c_15 => ?_) (fun c_15 => ?_)
    rotate_left
    · exact absurd (show (1120 : Int32) ≤ nI 1120 by decide) c_15
    exact k f [] hT.1
  | succ n ih =>
    intro i f hi hT
    refine j_iload_n h (q := 12) 0 dX3_record_11 rfl rfl ?_
    refine j_sipush h (q := 15) (1120) dX3_record_12 rfl (by decide) ?_
    refine j_icmp_ge h (tgt := 40) (q := 18) dX3_record_15 rfl (by decide) (fun c_15 => ?_) (fun c_15 => ?_)
    · exact absurd c_15 (by rw [i_Lle (by omega) (by omega)]; omega)
    refine j_aload_n h (q := 19) 1 dX3_record_18 rfl rfl ?_
    refine j_get h (q := 22) inX3 (C := RX3) (T := TX3) (N := 17) (ci := 3) rfl 2 (by decide) mF_X3_16 (by decide) (mw_0 _ _ _) rfl dX3_record_19 rfl ?_
    refine j_iload_n h (q := 23) 0 dX3_record_22 rfl rfl ?_
    refine j_aload_n h (q := 24) 1 dX3_record_23 rfl rfl ?_
    refine j_get h (q := 27) inX3 (C := RX3) (T := TX3) (N := 17) (ci := 3) rfl 2 (by decide) mF_X3_16 (by decide) (mw_0 _ _ _) rfl dX3_record_24 rfl ?_
    refine j_iload_n h (q := 28) 0 dX3_record_27 rfl rfl ?_
    refine j_sipush h (q := 31) (224) dX3_record_28 rfl (by decide) ?_
    refine j_iadd h (q := 32) dX3_record_31 rfl ?_
    refine j_ldn h (q := 33) (i + 224) (by decide) (mw_hs _ _ _) (by first | rfl | (simp only [nI_add, i_addL, i_Ladd, i_mulL, i_Lmul]; done) | (simp only [nI_add, i_addL, i_Ladd, i_mulL, i_Lmul]; congr 1; omega)) (by omega) (by decide) dX3_record_32 rfl ?_
    rw [show Mhs (shs M f) (i + 224) = Mhs M (i + 224) from hT.2 _ (by omega)]
    refine j_stn h (q := 34) (i) (by decide) (mw_hs _ _ _) rfl (by omega) (by decide) dX3_record_33 rfl ?_
    refine j_stk rfl mw_uhs ?_
    refine j_iinc h (q := 37) (loc' := [(1, _), (0, _)]) 0 _ dX3_record_34 rfl rfl rfl (by decide) rfl ?_
    refine j_goto h (tgt := 11) dX3_record_37 (by decide) ?_
    rw [show nI i + Int32.ofInt 1 = nI (i + 1) from nI_1 i]
    refine ih (i + 1) _ (by omega) ⟨fun j hj => ?_, fun j hj => ?_⟩
    · by_cases y : j = i
      · subst y; show upd f j (Mhs M (j + 224)) j = _; rw [pk_us]
      · show upd f i (Mhs M (i + 224)) j = _; rw [pk_un y]; exact hT.1 j (by omega)
    · show upd f i (Mhs M (i + 224)) j = _; rw [pk_un (by omega)]; exact hT.2 j (by omega)

set_option maxRecDepth 100000 in
set_option maxHeartbeats 4000000 in
theorem rec_50 (g : jG) (w : jW) (M : Ms) {K : jK} {Φ : Option Value → jW → Prop} (h : jH g K RX3 cX3_record 2 none) {σ : Sg} (S : SI σ) (Rg : MR (Mst M) (zg σ)) {r : Nat} (hr5 : r < 6) (hrn : r ≤ zn σ) (hr : Mrc M = nI r) (hh : RH (Mhs M) r (zh σ)) (kk : ∀ hs rc, rc = nI (r + 1) → RH hs (r + 1) (fun i => if i = 0 then zg σ else zh σ (i - 1)) → Φ none (mw g w (src (shs M hs) rc))) {l : List (Nat × Value)} : J g 1 K 2 Φ 50 ((0, .ref (gr g 67)) :: l) [] (mw g w M) := by
  refine j_aload_n h (q := 51) 0 dX3_record_50 rfl rfl ?_
  refine j_get h (q := 54) inX3 (C := RX3) (T := TX3) (N := 17) (ci := 3) rfl 0 (by decide) mF_X3_7 (by decide) (mw_0 _ _ _) rfl dX3_record_51 rfl ?_
  refine j_iconst h (q := 55) (0) dX3_record_54 rfl (by decide) ?_
  refine j_aload_n h (q := 56) 0 dX3_record_55 rfl rfl ?_
  refine j_get h (q := 59) inX3 (C := RX3) (T := TX3) (N := 17) (ci := 3) rfl 2 (by decide) mF_X3_16 (by decide) (mw_0 _ _ _) rfl dX3_record_56 rfl ?_
  refine j_aload_n h (q := 60) 0 dX3_record_59 rfl rfl ?_
  refine j_get h (q := 63) inX3 (C := RX3) (T := TX3) (N := 17) (ci := 3) rfl 3 (by decide) mF_X3_41 (by decide) (mw_0 _ _ _) rfl dX3_record_60 rfl ?_
  refine j_sipush h (q := 66) (224) dX3_record_63 rfl (by decide) ?_
  refine j_imul h (q := 67) dX3_record_66 rfl ?_
  refine j_cS h (q := 70) mo_X3_moves mS_X3_moves mL_X3_45 (m_moves g (mw g w M) (z := 68) (y := 70) (n := 224) (m := 1344) (a := 0) (b := r * 224) (f := Mst M) (u := Mhs M) ⟨by decide, by decide, mw_st _ _ _⟩ ⟨by decide, by decide, mw_hs _ _ _⟩ (by decide) rfl (by rw [hr, i_mulL]) (by decide) (by omega) (by decide) (by decide)) (by decide) rfl rfl (Nat.le_of_ble_eq_true rfl) dX3_record_67 rfl ?_
  rintro _ w67 ⟨rfl, e⟩
  subst e
  refine j_stk rfl (show va_up (mw g w M) 70 (.inl (gI g, 1344, .inl (mvR (Mst M) 0 (Mhs M) (r * 224) 224))) = mw g w (shs M (mvR (Mst M) 0 (Mhs M) (r * 224) 224)) from mw_uhs) ?_
  refine j_aload_n h (q := 71) 0 dX3_record_70 rfl rfl ?_
  refine j_dup h (q := 72) dX3_record_71 rfl rfl ?_
  refine j_get h (q := 75) inX3 (C := RX3) (T := TX3) (N := 17) (ci := 3) rfl 3 (by decide) mF_X3_41 (by decide) (mw_0 _ _ _) rfl dX3_record_72 rfl ?_
  refine j_iconst h (q := 76) (1) dX3_record_75 rfl (by decide) ?_
  refine j_iadd h (q := 77) dX3_record_76 rfl ?_
  refine j_put h (q := 80) inX3 (C := RX3) (T := TX3) (N := 17) (ci := 3) rfl tyX3_ok nmX3 3 (by decide) mF_X3_41 rfl rfl rfl (by first | rfl | decide) (by decide) (mw_0 _ _ _) (Nat.le_of_ble_eq_true rfl) dX3_record_77 rfl ?_
  refine j_stk rfl mw_u0 ?_
  refine j_vret h rfl dX3_record_80 ?_
  exact kk (mvR (Mst M) 0 (Mhs M) (r * 224) 224) _ (by show Mrc M + 1 = _; rw [hr]; exact i_addL _ _) (RH_up hh (fun i hi => S.2.2.1 i (by omega)) Rg S.1)

set_option maxRecDepth 100000 in
set_option maxHeartbeats 4000000 in
theorem m_record (g : jG) (w : jW) (M : Ms) (σ : Sg) (S : SI σ) (R : MX M σ)  : ConV g 1 yX3_record cX3_record 2 none [.ref (gr g 67)] (mw g w M) (fun w' => ∃ M', w' = mw g w M' ∧ MX M' (recG σ (zg σ)) ∧ Mst M' = Mst M ∧ Msz M' = Msz M ∧ Mtp M' = Mtp M) := by
  refine con_of (by decide +kernel) (Nat.le_of_ble_eq_true rfl) [(0, _)] rfl (fun K h => ?_)
  have hz6 := S.2.1
  by_cases h6 : zn σ = 6
  · refine j_aload_n h (q := 1) 0 dX3_record_0 rfl rfl ?_
    refine j_get h (q := 4) inX3 (C := RX3) (T := TX3) (N := 17) (ci := 3) rfl 3 (by decide) mF_X3_41 (by decide) (mw_0 _ _ _) rfl dX3_record_1 rfl ?_
    refine j_bipush h (q := 6) (6) dX3_record_4 rfl (by decide) ?_
    refine j_icmp_ne h (tgt := 50) (q := 9) dX3_record_6 rfl (by decide) (fun c_6 => ?_) (fun c_6 => ?_)
    · exact absurd ((by rw [R.2.1, h6]; rfl) : Mrc M = 6) c_6
    refine j_iconst h (q := 10) (0) dX3_record_9 rfl (by decide) ?_
    refine j_istore_n h (q := 11) (loc' := [(1, _), (0, _)]) dX3_record_10 rfl (by decide) rfl ?_
    refine lp_rec g w M h (fun f l hf => ?_) 1120 0 (Mhs M) rfl ⟨fun j hj => absurd hj (Nat.not_lt_zero _), fun _ _ => rfl⟩
    refine j_aload_n h (q := 41) 1 dX3_record_40 rfl rfl ?_
    refine j_dup h (q := 42) dX3_record_41 rfl rfl ?_
    refine j_get h (q := 45) inX3 (C := RX3) (T := TX3) (N := 17) (ci := 3) rfl 3 (by decide) mF_X3_41 (by decide) (mw_0 _ _ _) rfl dX3_record_42 rfl ?_
    refine j_iconst h (q := 46) (1) dX3_record_45 rfl (by decide) ?_
    refine j_isub h (q := 47) dX3_record_46 rfl ?_
    rw [show Mrc (shs M f) - 1 = nI 5 by show Mrc M - 1 = nI 5; rw [R.2.1, h6]; rfl]
    refine j_put h (q := 50) inX3 (C := RX3) (T := TX3) (N := 17) (ci := 3) rfl tyX3_ok nmX3 3 (by decide) mF_X3_41 rfl rfl rfl (by first | rfl | decide) (by decide) (mw_0 _ _ _) (Nat.le_of_ble_eq_true rfl) dX3_record_47 rfl ?_
    refine j_stk rfl mw_u0 ?_
    refine j_sub [1] rfl ?_
    refine rec_50 g w (src (shs M f) (nI 5)) h S R.1 (r := 5) (by decide) (by omega) rfl (RH_sh (by have q := R.2.2.1; rw [h6] at q; exact q) (fun i hi => S.2.2.1 i (by omega)) hf) (fun hs rc e h9 => ⟨rfl, _, rfl, ⟨R.1, e.trans (by congr 1; show 5 + 1 = min (zn σ + 1) 6; omega), fun i hi => ?_, R.2.2.2.1, R.2.2.2.2.1, R.2.2.2.2.2⟩, rfl, rfl, rfl⟩)
    have hi2 : i < 5 + 1 := by have hi3 : i < min (zn σ + 1) 6 := hi; omega
    have e9 : min (zn σ + 1) 6 = 5 + 1 := by omega
    have q := h9 i hi2
    show MR (fun j => hs (224 * (min (zn σ + 1) 6 - 1 - i) + j)) _
    rw [e9]
    exact q
  · refine j_aload_n h (q := 1) 0 dX3_record_0 rfl rfl ?_
    refine j_get h (q := 4) inX3 (C := RX3) (T := TX3) (N := 17) (ci := 3) rfl 3 (by decide) mF_X3_41 (by decide) (mw_0 _ _ _) rfl dX3_record_1 rfl ?_
    refine j_bipush h (q := 6) (6) dX3_record_4 rfl (by decide) ?_
    refine j_icmp_ne h (tgt := 50) (q := 9) dX3_record_6 rfl (by decide) (fun c_6 => ?_) (fun c_6 => ?_)
    rotate_left
    · exact absurd c_6 (by rw [R.2.1, i_eqL (by omega) (by decide)]; exact h6)
    refine rec_50 g w M h S R.1 (r := zn σ) (by omega) (Nat.le_refl _) R.2.1 R.2.2.1 (fun hs rc e h9 => ⟨rfl, _, rfl, ⟨R.1, e.trans (by congr 1; show zn σ + 1 = min (zn σ + 1) 6; omega), fun i hi => ?_, R.2.2.2.1, R.2.2.2.2.1, R.2.2.2.2.2⟩, rfl, rfl, rfl⟩)
    have hi2 : i < zn σ + 1 := by have hi3 : i < min (zn σ + 1) 6 := hi; omega
    have e9 : min (zn σ + 1) 6 = zn σ + 1 := by omega
    have q := h9 i hi2
    show MR (fun j => hs (224 * (min (zn σ + 1) 6 - 1 - i) + j)) _
    rw [e9]
    exact q
