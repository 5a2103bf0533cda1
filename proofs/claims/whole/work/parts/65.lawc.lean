set_option maxHeartbeats 4000000 in
set_option maxRecDepth 100000 in
theorem lc_deal {g : jG} {K : jK} {Q : State → Prop} {b L i : Nat} {xs : Nat → Int32} (h : jH g K RL cL_law 4 (some .boolean)) (hX : jX g K b L xs) (hL : L ≤ 1536) (hi : i + 3 ≤ L) {σ : Sg} {X : Xs} {M : Ms} (S : SI σ) (RX : XR X σ) (RM : MX M σ) (kk : ∀ (σ' : Sg) (X' : Xs) (M' : Ms), SI σ' → XR X' σ' → MX M' σ' → JN g room_1 K 4 Q 655 (LOC g b i) [] (mw g (xw g DW X') M') 77 9596) : JN g room_1 K 4 Q 132 (LOC g b i) [] (mw g (xw g DW X) M) 77 9596 := by
  refine n_aload_n h (q := 133) 2 rfl dL_law_132 rfl ?_
  refine n_arg h hX (q := 138) 1 (by decide) (by omega) hL dL_law_133 dL_law_134 dL_law_135 dL_law_136 dL_law_137 rfl ?_
  refine n_w (xm_comm g DW X M).symm ?_
  refine n_cV h (q := 141) (C := RX2) (T := TX2) (N := 9) (ci := 2) mo_X2_deal mI_X2_deal mV_X2_deal mL_L_13 (X_deal g (mw g DW M) X σ S RX _) (Nat.le_of_ble_eq_true rfl) (Nat.le_of_ble_eq_true rfl) (Nat.le_of_ble_eq_true rfl) (Nat.le_of_ble_eq_true rfl) (by decide) (xw_0 _ _ _) rfl rfl rfl (Nat.le_of_ble_eq_true rfl) dL_law_138 rfl ?_
  rintro _ _ ⟨x, rfl, ex, X', rfl, RX'⟩
  refine n_w (xm_comm g DW X' M) ?_
  refine n_aload_n h (q := 142) 1 rfl dL_law_141 rfl ?_
  refine n_arg h hX (q := 147) 1 (by decide) (by omega) hL dL_law_142 dL_law_143 dL_law_144 dL_law_145 dL_law_146 rfl ?_
  refine n_cV h (q := 150) (C := RX3) (T := TX3) (N := 17) (ci := 3) mo_X3_deal mI_X3_deal mV_X3_deal mL_L_17 (M_deal g (xw g DW X') M σ S RM _) (Nat.le_of_ble_eq_true rfl) (Nat.le_of_ble_eq_true rfl) (Nat.le_of_ble_eq_true rfl) (Nat.le_of_ble_eq_true rfl) (by decide) (mw_0 _ _ _) rfl rfl rfl (Nat.le_of_ble_eq_true rfl) dL_law_147 rfl ?_
  rintro _ _ ⟨y, rfl, ey, M', rfl, RM'⟩
  refine n_icmp_eq h (tgt := 655) (q := 153) dL_law_150 rfl (by decide) (fun c1 => ?_) (fun c1 => ?_)
  · exact kk _ X' M' (SI_deal' S _) RX' RM'
  · exact absurd (ex.trans ey.symm) c1
set_option maxHeartbeats 4000000 in
set_option maxRecDepth 100000 in
theorem lc_move {g : jG} {K : jK} {Q : State → Prop} {b L i : Nat} {xs : Nat → Int32} (h : jH g K RL cL_law 4 (some .boolean)) (hX : jX g K b L xs) (hL : L ≤ 1536) (hi : i + 3 ≤ L) {σ : Sg} {X : Xs} {M : Ms} (S : SI σ) (RX : XR X σ) (RM : MX M σ) (kk : ∀ (σ' : Sg) (X' : Xs) (M' : Ms), SI σ' → XR X' σ' → MX M' σ' → JN g room_1 K 4 Q 655 (LOC g b i) [] (mw g (xw g DW X') M') 77 9596) : JN g room_1 K 4 Q 155 (LOC g b i) [] (mw g (xw g DW X) M) 77 9596 := by
  refine n_aload_n h (q := 156) 2 rfl dL_law_155 rfl ?_
  refine n_arg h hX (q := 161) 1 (by decide) (by omega) hL dL_law_156 dL_law_157 dL_law_158 dL_law_159 dL_law_160 rfl ?_
  refine n_arg h hX (q := 166) 2 (by decide) (by omega) hL dL_law_161 dL_law_162 dL_law_163 dL_law_164 dL_law_165 rfl ?_
  refine n_w (xm_comm g DW X M).symm ?_
  refine n_cV h (q := 169) (C := RX2) (T := TX2) (N := 9) (ci := 2) mo_X2_move mI_X2_move mV_X2_move mL_L_18 (X_move g (mw g DW M) X σ S RX _ _) (Nat.le_of_ble_eq_true rfl) (Nat.le_of_ble_eq_true rfl) (Nat.le_of_ble_eq_true rfl) (Nat.le_of_ble_eq_true rfl) (by decide) (xw_0 _ _ _) rfl rfl rfl (Nat.le_of_ble_eq_true rfl) dL_law_166 rfl ?_
  rintro _ _ ⟨x, rfl, ex, X', rfl, RX'⟩
  refine n_w (xm_comm g DW X' M) ?_
  refine n_aload_n h (q := 170) 1 rfl dL_law_169 rfl ?_
  refine n_arg h hX (q := 175) 1 (by decide) (by omega) hL dL_law_170 dL_law_171 dL_law_172 dL_law_173 dL_law_174 rfl ?_
  refine n_arg h hX (q := 180) 2 (by decide) (by omega) hL dL_law_175 dL_law_176 dL_law_177 dL_law_178 dL_law_179 rfl ?_
  refine n_cV h (q := 183) (C := RX3) (T := TX3) (N := 17) (ci := 3) mo_X3_move mI_X3_move mV_X3_move mL_L_22 (M_move g (xw g DW X') M σ S RM _ _) (Nat.le_of_ble_eq_true rfl) (Nat.le_of_ble_eq_true rfl) (Nat.le_of_ble_eq_true rfl) (Nat.le_of_ble_eq_true rfl) (by decide) (mw_0 _ _ _) rfl rfl rfl (Nat.le_of_ble_eq_true rfl) dL_law_180 rfl ?_
  rintro _ _ ⟨y, rfl, ey, M', rfl, RM'⟩
  refine n_icmp_eq h (tgt := 655) (q := 186) dL_law_183 rfl (by decide) (fun c1 => ?_) (fun c1 => ?_)
  · exact kk _ X' M' (SI_move' S _ _) RX' RM'
  · exact absurd (ex.trans ey.symm) c1
set_option maxHeartbeats 4000000 in
set_option maxRecDepth 100000 in
theorem lc_draw {g : jG} {K : jK} {Q : State → Prop} {b L i : Nat} {xs : Nat → Int32} (h : jH g K RL cL_law 4 (some .boolean)) (hX : jX g K b L xs) (hL : L ≤ 1536) (hi : i + 3 ≤ L) {σ : Sg} {X : Xs} {M : Ms} (S : SI σ) (RX : XR X σ) (RM : MX M σ) (kk : ∀ (σ' : Sg) (X' : Xs) (M' : Ms), SI σ' → XR X' σ' → MX M' σ' → JN g room_1 K 4 Q 655 (LOC g b i) [] (mw g (xw g DW X') M') 77 9596) : JN g room_1 K 4 Q 188 (LOC g b i) [] (mw g (xw g DW X) M) 77 9596 := by
  refine n_aload_n h (q := 189) 2 rfl dL_law_188 rfl ?_
  refine n_w (xm_comm g DW X M).symm ?_
  refine n_cV h (q := 192) (C := RX2) (T := TX2) (N := 9) (ci := 2) mo_X2_draw mI_X2_draw mV_X2_draw mL_L_23 (X_draw g (mw g DW M) X σ S RX) (Nat.le_of_ble_eq_true rfl) (Nat.le_of_ble_eq_true rfl) (Nat.le_of_ble_eq_true rfl) (Nat.le_of_ble_eq_true rfl) (by decide) (xw_0 _ _ _) rfl rfl rfl (Nat.le_of_ble_eq_true rfl) dL_law_189 rfl ?_
  rintro _ _ ⟨x, rfl, ex, X', rfl, RX'⟩
  refine n_w (xm_comm g DW X' M) ?_
  refine n_aload_n h (q := 193) 1 rfl dL_law_192 rfl ?_
  refine n_cV h (q := 196) (C := RX3) (T := TX3) (N := 17) (ci := 3) mo_X3_draw mI_X3_draw mV_X3_draw mL_L_27 (M_draw g (xw g DW X') M σ S RM) (Nat.le_of_ble_eq_true rfl) (Nat.le_of_ble_eq_true rfl) (Nat.le_of_ble_eq_true rfl) (Nat.le_of_ble_eq_true rfl) (by decide) (mw_0 _ _ _) rfl rfl rfl (Nat.le_of_ble_eq_true rfl) dL_law_193 rfl ?_
  rintro _ _ ⟨y, rfl, ey, M', rfl, RM'⟩
  refine n_icmp_eq h (tgt := 655) (q := 199) dL_law_196 rfl (by decide) (fun c1 => ?_) (fun c1 => ?_)
  · exact kk _ X' M' (SI_draw' S) RX' RM'
  · exact absurd (ex.trans ey.symm) c1
set_option maxHeartbeats 4000000 in
set_option maxRecDepth 100000 in
theorem lc_freeze {g : jG} {K : jK} {Q : State → Prop} {b L i : Nat} {xs : Nat → Int32} (h : jH g K RL cL_law 4 (some .boolean)) (hX : jX g K b L xs) (hL : L ≤ 1536) (hi : i + 3 ≤ L) {σ : Sg} {X : Xs} {M : Ms} (S : SI σ) (RX : XR X σ) (RM : MX M σ) (kk : ∀ (σ' : Sg) (X' : Xs) (M' : Ms), SI σ' → XR X' σ' → MX M' σ' → JN g room_1 K 4 Q 655 (LOC g b i) [] (mw g (xw g DW X') M') 77 9596) : JN g room_1 K 4 Q 201 (LOC g b i) [] (mw g (xw g DW X) M) 77 9596 := by
  refine n_aload_n h (q := 202) 2 rfl dL_law_201 rfl ?_
  refine n_arg h hX (q := 207) 1 (by decide) (by omega) hL dL_law_202 dL_law_203 dL_law_204 dL_law_205 dL_law_206 rfl ?_
  refine n_w (xm_comm g DW X M).symm ?_
  refine n_cV h (q := 210) (C := RX2) (T := TX2) (N := 9) (ci := 2) mo_X2_freeze mI_X2_freeze mV_X2_freeze mL_L_28 (X_freeze g (mw g DW M) X σ S RX _) (Nat.le_of_ble_eq_true rfl) (Nat.le_of_ble_eq_true rfl) (Nat.le_of_ble_eq_true rfl) (Nat.le_of_ble_eq_true rfl) (by decide) (xw_0 _ _ _) rfl rfl rfl (Nat.le_of_ble_eq_true rfl) dL_law_207 rfl ?_
  rintro _ _ ⟨x, rfl, ex, X', rfl, RX'⟩
  refine n_w (xm_comm g DW X' M) ?_
  refine n_aload_n h (q := 211) 1 rfl dL_law_210 rfl ?_
  refine n_arg h hX (q := 216) 1 (by decide) (by omega) hL dL_law_211 dL_law_212 dL_law_213 dL_law_214 dL_law_215 rfl ?_
  refine n_cV h (q := 219) (C := RX3) (T := TX3) (N := 17) (ci := 3) mo_X3_freeze mI_X3_freeze mV_X3_freeze mL_L_31 (M_freeze g (xw g DW X') M σ S RM _) (Nat.le_of_ble_eq_true rfl) (Nat.le_of_ble_eq_true rfl) (Nat.le_of_ble_eq_true rfl) (Nat.le_of_ble_eq_true rfl) (by decide) (mw_0 _ _ _) rfl rfl rfl (Nat.le_of_ble_eq_true rfl) dL_law_216 rfl ?_
  rintro _ _ ⟨y, rfl, ey, M', rfl, RM'⟩
  refine n_icmp_eq h (tgt := 655) (q := 222) dL_law_219 rfl (by decide) (fun c1 => ?_) (fun c1 => ?_)
  · exact kk _ X' M' (SI_freeze' S _) RX' RM'
  · exact absurd (ex.trans ey.symm) c1
set_option maxHeartbeats 4000000 in
set_option maxRecDepth 100000 in
theorem lc_play {g : jG} {K : jK} {Q : State → Prop} {b L i : Nat} {xs : Nat → Int32} (h : jH g K RL cL_law 4 (some .boolean)) (hX : jX g K b L xs) (hL : L ≤ 1536) (hi : i + 3 ≤ L) {σ : Sg} {X : Xs} {M : Ms} (S : SI σ) (RX : XR X σ) (RM : MX M σ) (kk : ∀ (σ' : Sg) (X' : Xs) (M' : Ms), SI σ' → XR X' σ' → MX M' σ' → JN g room_1 K 4 Q 655 (LOC g b i) [] (mw g (xw g DW X') M') 77 9596) : JN g room_1 K 4 Q 224 (LOC g b i) [] (mw g (xw g DW X) M) 77 9596 := by
  refine n_aload_n h (q := 225) 2 rfl dL_law_224 rfl ?_
  refine n_arg h hX (q := 230) 1 (by decide) (by omega) hL dL_law_225 dL_law_226 dL_law_227 dL_law_228 dL_law_229 rfl ?_
  refine n_w (xm_comm g DW X M).symm ?_
  refine n_cV h (q := 233) (C := RX2) (T := TX2) (N := 9) (ci := 2) mo_X2_play mI_X2_play mV_X2_play mL_L_32 (X_play g (mw g DW M) X σ S RX _) (Nat.le_of_ble_eq_true rfl) (Nat.le_of_ble_eq_true rfl) (Nat.le_of_ble_eq_true rfl) (Nat.le_of_ble_eq_true rfl) (by decide) (xw_0 _ _ _) rfl rfl rfl (Nat.le_of_ble_eq_true rfl) dL_law_230 rfl ?_
  rintro _ _ ⟨x, rfl, ex, X', rfl, RX'⟩
  refine n_w (xm_comm g DW X' M) ?_
  refine n_aload_n h (q := 234) 1 rfl dL_law_233 rfl ?_
  refine n_arg h hX (q := 239) 1 (by decide) (by omega) hL dL_law_234 dL_law_235 dL_law_236 dL_law_237 dL_law_238 rfl ?_
  refine n_cV h (q := 242) (C := RX3) (T := TX3) (N := 17) (ci := 3) mo_X3_play mI_X3_play mV_X3_play mL_L_35 (M_play g (xw g DW X') M σ S RM _) (Nat.le_of_ble_eq_true rfl) (Nat.le_of_ble_eq_true rfl) (Nat.le_of_ble_eq_true rfl) (Nat.le_of_ble_eq_true rfl) (by decide) (mw_0 _ _ _) rfl rfl rfl (Nat.le_of_ble_eq_true rfl) dL_law_239 rfl ?_
  rintro _ _ ⟨y, rfl, ey, M', rfl, RM'⟩
  refine n_icmp_eq h (tgt := 655) (q := 245) dL_law_242 rfl (by decide) (fun c1 => ?_) (fun c1 => ?_)
  · exact kk _ X' M' (SI_play' S _) RX' RM'
  · exact absurd (ex.trans ey.symm) c1
set_option maxHeartbeats 4000000 in
set_option maxRecDepth 100000 in
theorem lc_playAll {g : jG} {K : jK} {Q : State → Prop} {b L i : Nat} {xs : Nat → Int32} (h : jH g K RL cL_law 4 (some .boolean)) (hX : jX g K b L xs) (hL : L ≤ 1536) (hi : i + 3 ≤ L) {σ : Sg} {X : Xs} {M : Ms} (S : SI σ) (RX : XR X σ) (RM : MX M σ) (kk : ∀ (σ' : Sg) (X' : Xs) (M' : Ms), SI σ' → XR X' σ' → MX M' σ' → JN g room_1 K 4 Q 655 (LOC g b i) [] (mw g (xw g DW X') M') 77 9596) : JN g room_1 K 4 Q 247 (LOC g b i) [] (mw g (xw g DW X) M) 77 9596 := by
  refine n_aload_n h (q := 248) 2 rfl dL_law_247 rfl ?_
  refine n_w (xm_comm g DW X M).symm ?_
  refine n_cV h (q := 251) (C := RX2) (T := TX2) (N := 9) (ci := 2) mo_X2_playAll mI_X2_playAll mV_X2_playAll mL_L_36 (X_playAll g (mw g DW M) X σ S RX) (Nat.le_of_ble_eq_true rfl) (Nat.le_of_ble_eq_true rfl) (Nat.le_of_ble_eq_true rfl) (Nat.le_of_ble_eq_true rfl) (by decide) (xw_0 _ _ _) rfl rfl rfl (Nat.le_of_ble_eq_true rfl) dL_law_248 rfl ?_
  rintro _ _ ⟨x, rfl, ex, X', rfl, RX'⟩
  refine n_w (xm_comm g DW X' M) ?_
  refine n_aload_n h (q := 252) 1 rfl dL_law_251 rfl ?_
  refine n_cV h (q := 255) (C := RX3) (T := TX3) (N := 17) (ci := 3) mo_X3_playAll mI_X3_playAll mV_X3_playAll mL_L_39 (M_playAll g (xw g DW X') M σ S RM) (Nat.le_of_ble_eq_true rfl) (Nat.le_of_ble_eq_true rfl) (Nat.le_of_ble_eq_true rfl) (Nat.le_of_ble_eq_true rfl) (by decide) (mw_0 _ _ _) rfl rfl rfl (Nat.le_of_ble_eq_true rfl) dL_law_252 rfl ?_
  rintro _ _ ⟨y, rfl, ey, M', rfl, RM'⟩
  refine n_icmp_eq h (tgt := 655) (q := 258) dL_law_255 rfl (by decide) (fun c1 => ?_) (fun c1 => ?_)
  · exact kk _ X' M' (SI_all' S) RX' RM'
  · exact absurd (ex.trans ey.symm) c1
set_option maxHeartbeats 4000000 in
set_option maxRecDepth 100000 in
theorem lc_pile {g : jG} {K : jK} {Q : State → Prop} {b L i : Nat} {xs : Nat → Int32} (h : jH g K RL cL_law 4 (some .boolean)) (hX : jX g K b L xs) (hL : L ≤ 1536) (hi : i + 3 ≤ L) {σ : Sg} {X : Xs} {M : Ms} (S : SI σ) (RX : XR X σ) (RM : MX M σ) (kk : ∀ (σ' : Sg) (X' : Xs) (M' : Ms), SI σ' → XR X' σ' → MX M' σ' → JN g room_1 K 4 Q 655 (LOC g b i) [] (mw g (xw g DW X') M') 77 9596) : JN g room_1 K 4 Q 260 (LOC g b i) [] (mw g (xw g DW X) M) 77 9596 := by
  refine n_aload_n h (q := 261) 2 rfl dL_law_260 rfl ?_
  refine n_arg h hX (q := 266) 1 (by decide) (by omega) hL dL_law_261 dL_law_262 dL_law_263 dL_law_264 dL_law_265 rfl ?_
  refine n_arg h hX (q := 271) 2 (by decide) (by omega) hL dL_law_266 dL_law_267 dL_law_268 dL_law_269 dL_law_270 rfl ?_
  refine n_w (xm_comm g DW X M).symm ?_
  refine n_cV h (q := 274) (C := RX2) (T := TX2) (N := 9) (ci := 2) mo_X2_pile mI_X2_pile mV_X2_pile mL_L_40 (X_pile g (mw g DW M) X σ S RX _ _) (Nat.le_of_ble_eq_true rfl) (Nat.le_of_ble_eq_true rfl) (Nat.le_of_ble_eq_true rfl) (Nat.le_of_ble_eq_true rfl) (by decide) (xw_0 _ _ _) rfl rfl rfl (Nat.le_of_ble_eq_true rfl) dL_law_271 rfl ?_
  rintro _ _ ⟨x, rfl, ex, X', rfl, RX'⟩
  refine n_w (xm_comm g DW X' M) ?_
  refine n_aload_n h (q := 275) 1 rfl dL_law_274 rfl ?_
  refine n_arg h hX (q := 280) 1 (by decide) (by omega) hL dL_law_275 dL_law_276 dL_law_277 dL_law_278 dL_law_279 rfl ?_
  refine n_arg h hX (q := 285) 2 (by decide) (by omega) hL dL_law_280 dL_law_281 dL_law_282 dL_law_283 dL_law_284 rfl ?_
  refine n_cV h (q := 288) (C := RX3) (T := TX3) (N := 17) (ci := 3) mo_X3_pile mI_X3_pile mV_X3_pile mL_L_43 (M_pile g (xw g DW X') M σ S RM _ _) (Nat.le_of_ble_eq_true rfl) (Nat.le_of_ble_eq_true rfl) (Nat.le_of_ble_eq_true rfl) (Nat.le_of_ble_eq_true rfl) (by decide) (mw_0 _ _ _) rfl rfl rfl (Nat.le_of_ble_eq_true rfl) dL_law_285 rfl ?_
  rintro _ _ ⟨y, rfl, ey, M', rfl, RM'⟩
  refine n_icmp_eq h (tgt := 655) (q := 291) dL_law_288 rfl (by decide) (fun c1 => ?_) (fun c1 => ?_)
  · exact kk σ X' M' S RX' RM'
  · exact absurd (ex.trans ey.symm) c1
set_option maxHeartbeats 4000000 in
set_option maxRecDepth 100000 in
theorem lc_card {g : jG} {K : jK} {Q : State → Prop} {b L i : Nat} {xs : Nat → Int32} (h : jH g K RL cL_law 4 (some .boolean)) (hX : jX g K b L xs) (hL : L ≤ 1536) (hi : i + 3 ≤ L) {σ : Sg} {X : Xs} {M : Ms} (S : SI σ) (RX : XR X σ) (RM : MX M σ) (kk : ∀ (σ' : Sg) (X' : Xs) (M' : Ms), SI σ' → XR X' σ' → MX M' σ' → JN g room_1 K 4 Q 655 (LOC g b i) [] (mw g (xw g DW X') M') 77 9596) : JN g room_1 K 4 Q 293 (LOC g b i) [] (mw g (xw g DW X) M) 77 9596 := by
  refine n_aload_n h (q := 294) 2 rfl dL_law_293 rfl ?_
  refine n_arg h hX (q := 299) 1 (by decide) (by omega) hL dL_law_294 dL_law_295 dL_law_296 dL_law_297 dL_law_298 rfl ?_
  refine n_arg h hX (q := 304) 2 (by decide) (by omega) hL dL_law_299 dL_law_300 dL_law_301 dL_law_302 dL_law_303 rfl ?_
  refine n_w (xm_comm g DW X M).symm ?_
  refine n_cV h (q := 307) (C := RX2) (T := TX2) (N := 9) (ci := 2) mo_X2_card mI_X2_card mV_X2_card mL_L_44 (X_card g (mw g DW M) X σ S RX _ _) (Nat.le_of_ble_eq_true rfl) (Nat.le_of_ble_eq_true rfl) (Nat.le_of_ble_eq_true rfl) (Nat.le_of_ble_eq_true rfl) (by decide) (xw_0 _ _ _) rfl rfl rfl (Nat.le_of_ble_eq_true rfl) dL_law_304 rfl ?_
  rintro _ _ ⟨x, rfl, ex, X', rfl, RX'⟩
  refine n_w (xm_comm g DW X' M) ?_
  refine n_aload_n h (q := 308) 1 rfl dL_law_307 rfl ?_
  refine n_arg h hX (q := 313) 1 (by decide) (by omega) hL dL_law_308 dL_law_309 dL_law_310 dL_law_311 dL_law_312 rfl ?_
  refine n_arg h hX (q := 318) 2 (by decide) (by omega) hL dL_law_313 dL_law_314 dL_law_315 dL_law_316 dL_law_317 rfl ?_
  refine n_cV h (q := 321) (C := RX3) (T := TX3) (N := 17) (ci := 3) mo_X3_card mI_X3_card mV_X3_card mL_L_47 (M_card g (xw g DW X') M σ S RM _ _) (Nat.le_of_ble_eq_true rfl) (Nat.le_of_ble_eq_true rfl) (Nat.le_of_ble_eq_true rfl) (Nat.le_of_ble_eq_true rfl) (by decide) (mw_0 _ _ _) rfl rfl rfl (Nat.le_of_ble_eq_true rfl) dL_law_318 rfl ?_
  rintro _ _ ⟨y, rfl, ey, M', rfl, RM'⟩
  refine n_icmp_eq h (tgt := 655) (q := 324) dL_law_321 rfl (by decide) (fun c1 => ?_) (fun c1 => ?_)
  · exact kk σ X' M' S RX' RM'
  · exact absurd (ex.trans ey.symm) c1
set_option maxHeartbeats 4000000 in
set_option maxRecDepth 100000 in
theorem lc_where {g : jG} {K : jK} {Q : State → Prop} {b L i : Nat} {xs : Nat → Int32} (h : jH g K RL cL_law 4 (some .boolean)) (hX : jX g K b L xs) (hL : L ≤ 1536) (hi : i + 3 ≤ L) {σ : Sg} {X : Xs} {M : Ms} (S : SI σ) (RX : XR X σ) (RM : MX M σ) (kk : ∀ (σ' : Sg) (X' : Xs) (M' : Ms), SI σ' → XR X' σ' → MX M' σ' → JN g room_1 K 4 Q 655 (LOC g b i) [] (mw g (xw g DW X') M') 77 9596) : JN g room_1 K 4 Q 326 (LOC g b i) [] (mw g (xw g DW X) M) 77 9596 := by
  obtain ⟨p0, i0, hw0⟩ := whereIs S (xs (i + 1))
  refine n_aload_n h (q := 327) 2 rfl dL_law_326 rfl ?_
  refine n_arg h hX (q := 332) 1 (by decide) (by omega) hL dL_law_327 dL_law_328 dL_law_329 dL_law_330 dL_law_331 rfl ?_
  refine n_arg h hX (q := 337) 2 (by decide) (by omega) hL dL_law_332 dL_law_333 dL_law_334 dL_law_335 dL_law_336 rfl ?_
  refine n_w (xm_comm g DW X M).symm ?_
  refine n_cV h (q := 340) (C := RX2) (T := TX2) (N := 9) (ci := 2) mo_X2_where mI_X2_where mV_X2_where mL_L_48 (X_where g (mw g DW M) X σ S RX _ _ hw0) (Nat.le_of_ble_eq_true rfl) (Nat.le_of_ble_eq_true rfl) (Nat.le_of_ble_eq_true rfl) (Nat.le_of_ble_eq_true rfl) (by decide) (xw_0 _ _ _) rfl rfl rfl (Nat.le_of_ble_eq_true rfl) dL_law_337 rfl ?_
  rintro _ _ ⟨x, rfl, ex, X', rfl, RX'⟩
  refine n_w (xm_comm g DW X' M) ?_
  refine n_aload_n h (q := 341) 1 rfl dL_law_340 rfl ?_
  refine n_arg h hX (q := 346) 1 (by decide) (by omega) hL dL_law_341 dL_law_342 dL_law_343 dL_law_344 dL_law_345 rfl ?_
  refine n_arg h hX (q := 351) 2 (by decide) (by omega) hL dL_law_346 dL_law_347 dL_law_348 dL_law_349 dL_law_350 rfl ?_
  refine n_cV h (q := 354) (C := RX3) (T := TX3) (N := 17) (ci := 3) mo_X3_where mI_X3_where mV_X3_where mL_L_51 (M_where g (xw g DW X') M σ S RM _ _ hw0) (Nat.le_of_ble_eq_true rfl) (Nat.le_of_ble_eq_true rfl) (Nat.le_of_ble_eq_true rfl) (Nat.le_of_ble_eq_true rfl) (by decide) (mw_0 _ _ _) rfl rfl rfl (Nat.le_of_ble_eq_true rfl) dL_law_351 rfl ?_
  rintro _ _ ⟨y, rfl, ey, M', rfl, RM'⟩
  refine n_icmp_eq h (tgt := 655) (q := 357) dL_law_354 rfl (by decide) (fun c1 => ?_) (fun c1 => ?_)
  · exact kk σ X' M' S RX' RM'
  · exact absurd (ex.trans ey.symm) c1
set_option maxHeartbeats 4000000 in
set_option maxRecDepth 100000 in
theorem lc_side {g : jG} {K : jK} {Q : State → Prop} {b L i : Nat} {xs : Nat → Int32} (h : jH g K RL cL_law 4 (some .boolean)) (hX : jX g K b L xs) (hL : L ≤ 1536) (hi : i + 3 ≤ L) {σ : Sg} {X : Xs} {M : Ms} (S : SI σ) (RX : XR X σ) (RM : MX M σ) (kk : ∀ (σ' : Sg) (X' : Xs) (M' : Ms), SI σ' → XR X' σ' → MX M' σ' → JN g room_1 K 4 Q 655 (LOC g b i) [] (mw g (xw g DW X') M') 77 9596) : JN g room_1 K 4 Q 359 (LOC g b i) [] (mw g (xw g DW X) M) 77 9596 := by
  refine n_aload_n h (q := 360) 2 rfl dL_law_359 rfl ?_
  refine n_arg h hX (q := 365) 1 (by decide) (by omega) hL dL_law_360 dL_law_361 dL_law_362 dL_law_363 dL_law_364 rfl ?_
  refine n_arg h hX (q := 370) 2 (by decide) (by omega) hL dL_law_365 dL_law_366 dL_law_367 dL_law_368 dL_law_369 rfl ?_
  refine n_w (xm_comm g DW X M).symm ?_
  refine n_cV h (q := 373) (C := RX2) (T := TX2) (N := 9) (ci := 2) mo_X2_side mI_X2_side mV_X2_side mL_L_52 (X_side g (mw g DW M) X σ S RX _ _) (Nat.le_of_ble_eq_true rfl) (Nat.le_of_ble_eq_true rfl) (Nat.le_of_ble_eq_true rfl) (Nat.le_of_ble_eq_true rfl) (by decide) (xw_0 _ _ _) rfl rfl rfl (Nat.le_of_ble_eq_true rfl) dL_law_370 rfl ?_
  rintro _ _ ⟨x, rfl, ex, X', rfl, RX'⟩
  refine n_w (xm_comm g DW X' M) ?_
  refine n_aload_n h (q := 374) 1 rfl dL_law_373 rfl ?_
  refine n_arg h hX (q := 379) 1 (by decide) (by omega) hL dL_law_374 dL_law_375 dL_law_376 dL_law_377 dL_law_378 rfl ?_
  refine n_arg h hX (q := 384) 2 (by decide) (by omega) hL dL_law_379 dL_law_380 dL_law_381 dL_law_382 dL_law_383 rfl ?_
  refine n_cV h (q := 387) (C := RX3) (T := TX3) (N := 17) (ci := 3) mo_X3_side mI_X3_side mV_X3_side mL_L_55 (M_side g (xw g DW X') M σ S RM _ _) (Nat.le_of_ble_eq_true rfl) (Nat.le_of_ble_eq_true rfl) (Nat.le_of_ble_eq_true rfl) (Nat.le_of_ble_eq_true rfl) (by decide) (mw_0 _ _ _) rfl rfl rfl (Nat.le_of_ble_eq_true rfl) dL_law_384 rfl ?_
  rintro _ _ ⟨y, rfl, ey, M', rfl, RM'⟩
  refine n_icmp_eq h (tgt := 655) (q := 390) dL_law_387 rfl (by decide) (fun c1 => ?_) (fun c1 => ?_)
  · exact kk σ X' M' S RX' RM'
  · exact absurd (ex.trans ey.symm) c1
set_option maxHeartbeats 4000000 in
set_option maxRecDepth 100000 in
theorem lc_count {g : jG} {K : jK} {Q : State → Prop} {b L i : Nat} {xs : Nat → Int32} (h : jH g K RL cL_law 4 (some .boolean)) (hX : jX g K b L xs) (hL : L ≤ 1536) (hi : i + 3 ≤ L) {σ : Sg} {X : Xs} {M : Ms} (S : SI σ) (RX : XR X σ) (RM : MX M σ) (kk : ∀ (σ' : Sg) (X' : Xs) (M' : Ms), SI σ' → XR X' σ' → MX M' σ' → JN g room_1 K 4 Q 655 (LOC g b i) [] (mw g (xw g DW X') M') 77 9596) : JN g room_1 K 4 Q 392 (LOC g b i) [] (mw g (xw g DW X) M) 77 9596 := by
  refine n_aload_n h (q := 393) 2 rfl dL_law_392 rfl ?_
  refine n_arg h hX (q := 398) 1 (by decide) (by omega) hL dL_law_393 dL_law_394 dL_law_395 dL_law_396 dL_law_397 rfl ?_
  refine n_w (xm_comm g DW X M).symm ?_
  refine n_cV h (q := 401) (C := RX2) (T := TX2) (N := 9) (ci := 2) mo_X2_count mI_X2_count mV_X2_count mL_L_56 (X_count g (mw g DW M) X σ S RX _) (Nat.le_of_ble_eq_true rfl) (Nat.le_of_ble_eq_true rfl) (Nat.le_of_ble_eq_true rfl) (Nat.le_of_ble_eq_true rfl) (by decide) (xw_0 _ _ _) rfl rfl rfl (Nat.le_of_ble_eq_true rfl) dL_law_398 rfl ?_
  rintro _ _ ⟨x, rfl, ex, X', rfl, RX'⟩
  refine n_w (xm_comm g DW X' M) ?_
  refine n_aload_n h (q := 402) 1 rfl dL_law_401 rfl ?_
  refine n_arg h hX (q := 407) 1 (by decide) (by omega) hL dL_law_402 dL_law_403 dL_law_404 dL_law_405 dL_law_406 rfl ?_
  refine n_cV h (q := 410) (C := RX3) (T := TX3) (N := 17) (ci := 3) mo_X3_count mI_X3_count mV_X3_count mL_L_59 (M_count g (xw g DW X') M σ S RM _) (Nat.le_of_ble_eq_true rfl) (Nat.le_of_ble_eq_true rfl) (Nat.le_of_ble_eq_true rfl) (Nat.le_of_ble_eq_true rfl) (by decide) (mw_0 _ _ _) rfl rfl rfl (Nat.le_of_ble_eq_true rfl) dL_law_407 rfl ?_
  rintro _ _ ⟨y, rfl, ey, M', rfl, RM'⟩
  refine n_icmp_eq h (tgt := 655) (q := 413) dL_law_410 rfl (by decide) (fun c1 => ?_) (fun c1 => ?_)
  · exact kk σ X' M' S RX' RM'
  · exact absurd (ex.trans ey.symm) c1
set_option maxHeartbeats 4000000 in
set_option maxRecDepth 100000 in
theorem lc_ofMove {g : jG} {K : jK} {Q : State → Prop} {b L i : Nat} {xs : Nat → Int32} (h : jH g K RL cL_law 4 (some .boolean)) (hX : jX g K b L xs) (hL : L ≤ 1536) (hi : i + 3 ≤ L) {σ : Sg} {X : Xs} {M : Ms} (S : SI σ) (RX : XR X σ) (RM : MX M σ) (kk : ∀ (σ' : Sg) (X' : Xs) (M' : Ms), SI σ' → XR X' σ' → MX M' σ' → JN g room_1 K 4 Q 655 (LOC g b i) [] (mw g (xw g DW X') M') 77 9596) : JN g room_1 K 4 Q 415 (LOC g b i) [] (mw g (xw g DW X) M) 77 9596 := by
  refine n_aload_n h (q := 416) 2 rfl dL_law_415 rfl ?_
  refine n_arg h hX (q := 421) 1 (by decide) (by omega) hL dL_law_416 dL_law_417 dL_law_418 dL_law_419 dL_law_420 rfl ?_
  refine n_arg h hX (q := 426) 2 (by decide) (by omega) hL dL_law_421 dL_law_422 dL_law_423 dL_law_424 dL_law_425 rfl ?_
  refine n_w (xm_comm g DW X M).symm ?_
  refine n_cV h (q := 429) (C := RX2) (T := TX2) (N := 9) (ci := 2) mo_X2_ofMove mI_X2_ofMove mV_X2_ofMove mL_L_60 (X_ofMove g (mw g DW M) X σ S RX _ _) (Nat.le_of_ble_eq_true rfl) (Nat.le_of_ble_eq_true rfl) (Nat.le_of_ble_eq_true rfl) (Nat.le_of_ble_eq_true rfl) (by decide) (xw_0 _ _ _) rfl rfl rfl (Nat.le_of_ble_eq_true rfl) dL_law_426 rfl ?_
  rintro _ _ ⟨x, rfl, ex, X', rfl, RX'⟩
  refine n_w (xm_comm g DW X' M) ?_
  refine n_aload_n h (q := 430) 1 rfl dL_law_429 rfl ?_
  refine n_arg h hX (q := 435) 1 (by decide) (by omega) hL dL_law_430 dL_law_431 dL_law_432 dL_law_433 dL_law_434 rfl ?_
  refine n_arg h hX (q := 440) 2 (by decide) (by omega) hL dL_law_435 dL_law_436 dL_law_437 dL_law_438 dL_law_439 rfl ?_
  refine n_cV h (q := 443) (C := RX3) (T := TX3) (N := 17) (ci := 3) mo_X3_ofMove mI_X3_ofMove mV_X3_ofMove mL_L_63 (M_ofMove g (xw g DW X') M σ S RM _ _) (Nat.le_of_ble_eq_true rfl) (Nat.le_of_ble_eq_true rfl) (Nat.le_of_ble_eq_true rfl) (Nat.le_of_ble_eq_true rfl) (by decide) (mw_0 _ _ _) rfl rfl rfl (Nat.le_of_ble_eq_true rfl) dL_law_440 rfl ?_
  rintro _ _ ⟨y, rfl, ey, M', rfl, RM'⟩
  refine n_icmp_eq h (tgt := 655) (q := 446) dL_law_443 rfl (by decide) (fun c1 => ?_) (fun c1 => ?_)
  · exact kk σ X' M' S RX' RM'
  · exact absurd (ex.trans ey.symm) c1
set_option maxHeartbeats 4000000 in
set_option maxRecDepth 100000 in
theorem lc_best {g : jG} {K : jK} {Q : State → Prop} {b L i : Nat} {xs : Nat → Int32} (h : jH g K RL cL_law 4 (some .boolean)) (hX : jX g K b L xs) (hL : L ≤ 1536) (hi : i + 3 ≤ L) {σ : Sg} {X : Xs} {M : Ms} (S : SI σ) (RX : XR X σ) (RM : MX M σ) (kk : ∀ (σ' : Sg) (X' : Xs) (M' : Ms), SI σ' → XR X' σ' → MX M' σ' → JN g room_1 K 4 Q 655 (LOC g b i) [] (mw g (xw g DW X') M') 77 9596) : JN g room_1 K 4 Q 448 (LOC g b i) [] (mw g (xw g DW X) M) 77 9596 := by
  refine n_aload_n h (q := 449) 2 rfl dL_law_448 rfl ?_
  refine n_w (xm_comm g DW X M).symm ?_
  refine n_cV h (q := 452) (C := RX2) (T := TX2) (N := 9) (ci := 2) mo_X2_best mI_X2_best mV_X2_best mL_L_64 (X_best g (mw g DW M) X σ S RX) (Nat.le_of_ble_eq_true rfl) (Nat.le_of_ble_eq_true rfl) (Nat.le_of_ble_eq_true rfl) (Nat.le_of_ble_eq_true rfl) (by decide) (xw_0 _ _ _) rfl rfl rfl (Nat.le_of_ble_eq_true rfl) dL_law_449 rfl ?_
  rintro _ _ ⟨x, rfl, ex, X', rfl, RX'⟩
  refine n_w (xm_comm g DW X' M) ?_
  refine n_aload_n h (q := 453) 1 rfl dL_law_452 rfl ?_
  refine n_cV h (q := 456) (C := RX3) (T := TX3) (N := 17) (ci := 3) mo_X3_best mI_X3_best mV_X3_best mL_L_67 (M_best g (xw g DW X') M σ S RM) (Nat.le_of_ble_eq_true rfl) (Nat.le_of_ble_eq_true rfl) (Nat.le_of_ble_eq_true rfl) (Nat.le_of_ble_eq_true rfl) (by decide) (mw_0 _ _ _) rfl rfl rfl (Nat.le_of_ble_eq_true rfl) dL_law_453 rfl ?_
  rintro _ _ ⟨y, rfl, ey, M', rfl, RM'⟩
  refine n_icmp_eq h (tgt := 655) (q := 459) dL_law_456 rfl (by decide) (fun c1 => ?_) (fun c1 => ?_)
  · exact kk σ X' M' S RX' RM'
  · exact absurd (ex.trans ey.symm) c1
set_option maxHeartbeats 4000000 in
set_option maxRecDepth 100000 in
theorem lc_ifPlayed {g : jG} {K : jK} {Q : State → Prop} {b L i : Nat} {xs : Nat → Int32} (h : jH g K RL cL_law 4 (some .boolean)) (hX : jX g K b L xs) (hL : L ≤ 1536) (hi : i + 3 ≤ L) {σ : Sg} {X : Xs} {M : Ms} (S : SI σ) (RX : XR X σ) (RM : MX M σ) (kk : ∀ (σ' : Sg) (X' : Xs) (M' : Ms), SI σ' → XR X' σ' → MX M' σ' → JN g room_1 K 4 Q 655 (LOC g b i) [] (mw g (xw g DW X') M') 77 9596) : JN g room_1 K 4 Q 461 (LOC g b i) [] (mw g (xw g DW X) M) 77 9596 := by
  refine n_aload_n h (q := 462) 2 rfl dL_law_461 rfl ?_
  refine n_arg h hX (q := 467) 1 (by decide) (by omega) hL dL_law_462 dL_law_463 dL_law_464 dL_law_465 dL_law_466 rfl ?_
  refine n_arg h hX (q := 472) 2 (by decide) (by omega) hL dL_law_467 dL_law_468 dL_law_469 dL_law_470 dL_law_471 rfl ?_
  refine n_w (xm_comm g DW X M).symm ?_
  refine n_cV h (q := 475) (C := RX2) (T := TX2) (N := 9) (ci := 2) mo_X2_ifPlayed mI_X2_ifPlayed mV_X2_ifPlayed mL_L_68 (X_ifPlayed g (mw g DW M) X σ S RX _ _) (Nat.le_of_ble_eq_true rfl) (Nat.le_of_ble_eq_true rfl) (Nat.le_of_ble_eq_true rfl) (Nat.le_of_ble_eq_true rfl) (by decide) (xw_0 _ _ _) rfl rfl rfl (Nat.le_of_ble_eq_true rfl) dL_law_472 rfl ?_
  rintro _ _ ⟨x, rfl, ex, X', rfl, RX'⟩
  refine n_w (xm_comm g DW X' M) ?_
  refine n_aload_n h (q := 476) 1 rfl dL_law_475 rfl ?_
  refine n_arg h hX (q := 481) 1 (by decide) (by omega) hL dL_law_476 dL_law_477 dL_law_478 dL_law_479 dL_law_480 rfl ?_
  refine n_arg h hX (q := 486) 2 (by decide) (by omega) hL dL_law_481 dL_law_482 dL_law_483 dL_law_484 dL_law_485 rfl ?_
  refine n_cV h (q := 489) (C := RX3) (T := TX3) (N := 17) (ci := 3) mo_X3_ifPlayed mI_X3_ifPlayed mV_X3_ifPlayed mL_L_71 (M_ifPlayed g (xw g DW X') M σ S RM _ _) (Nat.le_of_ble_eq_true rfl) (Nat.le_of_ble_eq_true rfl) (Nat.le_of_ble_eq_true rfl) (Nat.le_of_ble_eq_true rfl) (by decide) (mw_0 _ _ _) rfl rfl rfl (Nat.le_of_ble_eq_true rfl) dL_law_486 rfl ?_
  rintro _ _ ⟨y, rfl, ey, M', rfl, RM'⟩
  refine n_icmp_eq h (tgt := 655) (q := 492) dL_law_489 rfl (by decide) (fun c1 => ?_) (fun c1 => ?_)
  · exact kk σ X' M' S RX' RM'
  · exact absurd (ex.trans ey.symm) c1
set_option maxHeartbeats 4000000 in
set_option maxRecDepth 100000 in
theorem lc_buried {g : jG} {K : jK} {Q : State → Prop} {b L i : Nat} {xs : Nat → Int32} (h : jH g K RL cL_law 4 (some .boolean)) (hX : jX g K b L xs) (hL : L ≤ 1536) (hi : i + 3 ≤ L) {σ : Sg} {X : Xs} {M : Ms} (S : SI σ) (RX : XR X σ) (RM : MX M σ) (kk : ∀ (σ' : Sg) (X' : Xs) (M' : Ms), SI σ' → XR X' σ' → MX M' σ' → JN g room_1 K 4 Q 655 (LOC g b i) [] (mw g (xw g DW X') M') 77 9596) : JN g room_1 K 4 Q 494 (LOC g b i) [] (mw g (xw g DW X) M) 77 9596 := by
  obtain ⟨p0, i0, hw0⟩ := whereIs S (xs (i + 1))
  refine n_aload_n h (q := 495) 2 rfl dL_law_494 rfl ?_
  refine n_arg h hX (q := 500) 1 (by decide) (by omega) hL dL_law_495 dL_law_496 dL_law_497 dL_law_498 dL_law_499 rfl ?_
  refine n_w (xm_comm g DW X M).symm ?_
  refine n_cV h (q := 503) (C := RX2) (T := TX2) (N := 9) (ci := 2) mo_X2_buried mI_X2_buried mV_X2_buried mL_L_72 (X_buried g (mw g DW M) X σ S RX _ hw0) (Nat.le_of_ble_eq_true rfl) (Nat.le_of_ble_eq_true rfl) (Nat.le_of_ble_eq_true rfl) (Nat.le_of_ble_eq_true rfl) (by decide) (xw_0 _ _ _) rfl rfl rfl (Nat.le_of_ble_eq_true rfl) dL_law_500 rfl ?_
  rintro _ _ ⟨x, rfl, ex, X', rfl, RX'⟩
  refine n_w (xm_comm g DW X' M) ?_
  refine n_aload_n h (q := 504) 1 rfl dL_law_503 rfl ?_
  refine n_arg h hX (q := 509) 1 (by decide) (by omega) hL dL_law_504 dL_law_505 dL_law_506 dL_law_507 dL_law_508 rfl ?_
  refine n_cV h (q := 512) (C := RX3) (T := TX3) (N := 17) (ci := 3) mo_X3_buried mI_X3_buried mV_X3_buried mL_L_75 (M_buried g (xw g DW X') M σ S RM _ hw0) (Nat.le_of_ble_eq_true rfl) (Nat.le_of_ble_eq_true rfl) (Nat.le_of_ble_eq_true rfl) (Nat.le_of_ble_eq_true rfl) (by decide) (mw_0 _ _ _) rfl rfl rfl (Nat.le_of_ble_eq_true rfl) dL_law_509 rfl ?_
  rintro _ _ ⟨y, rfl, ey, M', rfl, RM'⟩
  refine n_icmp_eq h (tgt := 655) (q := 515) dL_law_512 rfl (by decide) (fun c1 => ?_) (fun c1 => ?_)
  · exact kk σ X' M' S RX' RM'
  · exact absurd (ex.trans ey.symm) c1
set_option maxHeartbeats 4000000 in
set_option maxRecDepth 100000 in
theorem lc_put {g : jG} {K : jK} {Q : State → Prop} {b L i : Nat} {xs : Nat → Int32} (h : jH g K RL cL_law 4 (some .boolean)) (hX : jX g K b L xs) (hL : L ≤ 1536) (hi : i + 3 ≤ L) {σ : Sg} {X : Xs} {M : Ms} (S : SI σ) (RX : XR X σ) (RM : MX M σ) (kk : ∀ (σ' : Sg) (X' : Xs) (M' : Ms), SI σ' → XR X' σ' → MX M' σ' → JN g room_1 K 4 Q 655 (LOC g b i) [] (mw g (xw g DW X') M') 77 9596) : JN g room_1 K 4 Q 517 (LOC g b i) [] (mw g (xw g DW X) M) 77 9596 := by
  refine n_aload_n h (q := 518) 2 rfl dL_law_517 rfl ?_
  refine n_arg h hX (q := 523) 1 (by decide) (by omega) hL dL_law_518 dL_law_519 dL_law_520 dL_law_521 dL_law_522 rfl ?_
  refine n_i2l h (q := 524) dL_law_523 rfl ?_
  refine n_bipush h (q := 526) (32) (by decide) dL_law_524 rfl ?_
  refine n_lshl h (q := 527) dL_law_526 rfl ?_
  refine n_arg h hX (q := 532) 2 (by decide) (by omega) hL dL_law_527 dL_law_528 dL_law_529 dL_law_530 dL_law_531 rfl ?_
  refine n_i2l h (q := 533) dL_law_532 rfl ?_
  refine n_ldc2 h (q := 536) mK_L_76 dL_law_533 rfl ?_
  refine n_land h (q := 537) dL_law_536 rfl ?_
  refine n_lor h (q := 538) dL_law_537 rfl ?_
  refine n_w (xm_comm g DW X M).symm ?_
  refine n_cV h (q := 541) (C := RX2) (T := TX2) (N := 9) (ci := 2) mo_X2_put mI_X2_put mV_X2_put mL_L_78 (X_put g (mw g DW M) X σ S RX _) (Nat.le_of_ble_eq_true rfl) (Nat.le_of_ble_eq_true rfl) (Nat.le_of_ble_eq_true rfl) (Nat.le_of_ble_eq_true rfl) (by decide) (xw_0 _ _ _) rfl rfl rfl (Nat.le_of_ble_eq_true rfl) dL_law_538 rfl ?_
  rintro _ _ ⟨x, rfl, ex, X', rfl, RX'⟩
  refine n_w (xm_comm g DW X' M) ?_
  refine n_aload_n h (q := 542) 1 rfl dL_law_541 rfl ?_
  refine n_arg h hX (q := 547) 1 (by decide) (by omega) hL dL_law_542 dL_law_543 dL_law_544 dL_law_545 dL_law_546 rfl ?_
  refine n_i2l h (q := 548) dL_law_547 rfl ?_
  refine n_bipush h (q := 550) (32) (by decide) dL_law_548 rfl ?_
  refine n_lshl h (q := 551) dL_law_550 rfl ?_
  refine n_arg h hX (q := 556) 2 (by decide) (by omega) hL dL_law_551 dL_law_552 dL_law_553 dL_law_554 dL_law_555 rfl ?_
  refine n_i2l h (q := 557) dL_law_556 rfl ?_
  refine n_ldc2 h (q := 560) mK_L_76 dL_law_557 rfl ?_
  refine n_land h (q := 561) dL_law_560 rfl ?_
  refine n_lor h (q := 562) dL_law_561 rfl ?_
  refine n_cV h (q := 565) (C := RX3) (T := TX3) (N := 17) (ci := 3) mo_X3_put mI_X3_put mV_X3_put mL_L_82 (M_put g (xw g DW X') M σ S RM _) (Nat.le_of_ble_eq_true rfl) (Nat.le_of_ble_eq_true rfl) (Nat.le_of_ble_eq_true rfl) (Nat.le_of_ble_eq_true rfl) (by decide) (mw_0 _ _ _) rfl rfl rfl (Nat.le_of_ble_eq_true rfl) dL_law_562 rfl ?_
  rintro _ _ ⟨y, rfl, ey, M', rfl, RM'⟩
  refine n_icmp_eq h (tgt := 655) (q := 568) dL_law_565 rfl (by decide) (fun c1 => ?_) (fun c1 => ?_)
  · exact kk _ X' M' (SI_put' S _) RX' RM'
  · exact absurd (ex.trans ey.symm) c1
set_option maxHeartbeats 4000000 in
set_option maxRecDepth 100000 in
theorem lc_wipe {g : jG} {K : jK} {Q : State → Prop} {b L i : Nat} {xs : Nat → Int32} (h : jH g K RL cL_law 4 (some .boolean)) (hX : jX g K b L xs) (hL : L ≤ 1536) (hi : i + 3 ≤ L) {σ : Sg} {X : Xs} {M : Ms} (S : SI σ) (RX : XR X σ) (RM : MX M σ) (kk : ∀ (σ' : Sg) (X' : Xs) (M' : Ms), SI σ' → XR X' σ' → MX M' σ' → JN g room_1 K 4 Q 655 (LOC g b i) [] (mw g (xw g DW X') M') 77 9596) : JN g room_1 K 4 Q 570 (LOC g b i) [] (mw g (xw g DW X) M) 77 9596 := by
  refine n_aload_n h (q := 571) 2 rfl dL_law_570 rfl ?_
  refine n_w (xm_comm g DW X M).symm ?_
  refine n_cV h (q := 574) (C := RX2) (T := TX2) (N := 9) (ci := 2) mo_X2_wipe mI_X2_wipe mV_X2_wipe mL_L_83 (X_wipe g (mw g DW M) X σ S RX) (Nat.le_of_ble_eq_true rfl) (Nat.le_of_ble_eq_true rfl) (Nat.le_of_ble_eq_true rfl) (Nat.le_of_ble_eq_true rfl) (by decide) (xw_0 _ _ _) rfl rfl rfl (Nat.le_of_ble_eq_true rfl) dL_law_571 rfl ?_
  rintro _ _ ⟨x, rfl, ex, X', rfl, RX'⟩
  refine n_w (xm_comm g DW X' M) ?_
  refine n_aload_n h (q := 575) 1 rfl dL_law_574 rfl ?_
  refine n_cV h (q := 578) (C := RX3) (T := TX3) (N := 17) (ci := 3) mo_X3_wipe mI_X3_wipe mV_X3_wipe mL_L_86 (M_wipe g (xw g DW X') M σ S RM) (Nat.le_of_ble_eq_true rfl) (Nat.le_of_ble_eq_true rfl) (Nat.le_of_ble_eq_true rfl) (Nat.le_of_ble_eq_true rfl) (by decide) (mw_0 _ _ _) rfl rfl rfl (Nat.le_of_ble_eq_true rfl) dL_law_575 rfl ?_
  rintro _ _ ⟨y, rfl, ey, M', rfl, RM'⟩
  refine n_icmp_eq h (tgt := 655) (q := 581) dL_law_578 rfl (by decide) (fun c1 => ?_) (fun c1 => ?_)
  · exact kk _ X' M' (SI_wipe S) RX' RM'
  · exact absurd (ex.trans ey.symm) c1
set_option maxHeartbeats 4000000 in
set_option maxRecDepth 100000 in
theorem lc_fault {g : jG} {K : jK} {Q : State → Prop} {b L i : Nat} {xs : Nat → Int32} (h : jH g K RL cL_law 4 (some .boolean)) (hX : jX g K b L xs) (hL : L ≤ 1536) (hi : i + 3 ≤ L) {σ : Sg} {X : Xs} {M : Ms} (S : SI σ) (RX : XR X σ) (RM : MX M σ) (kk : ∀ (σ' : Sg) (X' : Xs) (M' : Ms), SI σ' → XR X' σ' → MX M' σ' → JN g room_1 K 4 Q 655 (LOC g b i) [] (mw g (xw g DW X') M') 77 9596) : JN g room_1 K 4 Q 583 (LOC g b i) [] (mw g (xw g DW X) M) 77 9596 := by
  refine n_aload_n h (q := 584) 2 rfl dL_law_583 rfl ?_
  refine n_w (xm_comm g DW X M).symm ?_
  refine n_cV h (q := 587) (C := RX2) (T := TX2) (N := 9) (ci := 2) mo_X2_fault mI_X2_fault mV_X2_fault mL_L_87 (X_fault g (mw g DW M) X σ S RX) (Nat.le_of_ble_eq_true rfl) (Nat.le_of_ble_eq_true rfl) (Nat.le_of_ble_eq_true rfl) (Nat.le_of_ble_eq_true rfl) (by decide) (xw_0 _ _ _) rfl rfl rfl (Nat.le_of_ble_eq_true rfl) dL_law_584 rfl ?_
  rintro _ _ ⟨x, rfl, ex, X', rfl, RX'⟩
  refine n_w (xm_comm g DW X' M) ?_
  refine n_aload_n h (q := 588) 1 rfl dL_law_587 rfl ?_
  refine n_cV h (q := 591) (C := RX3) (T := TX3) (N := 17) (ci := 3) mo_X3_fault mI_X3_fault mV_X3_fault mL_L_90 (M_fault g (xw g DW X') M σ S RM) (Nat.le_of_ble_eq_true rfl) (Nat.le_of_ble_eq_true rfl) (Nat.le_of_ble_eq_true rfl) (Nat.le_of_ble_eq_true rfl) (by decide) (mw_0 _ _ _) rfl rfl rfl (Nat.le_of_ble_eq_true rfl) dL_law_588 rfl ?_
  rintro _ _ ⟨y, rfl, ey, M', rfl, RM'⟩
  refine n_icmp_eq h (tgt := 655) (q := 594) dL_law_591 rfl (by decide) (fun c1 => ?_) (fun c1 => ?_)
  · exact kk σ X' M' S RX' RM'
  · exact absurd (ex.trans ey.symm) c1
set_option maxHeartbeats 4000000 in
set_option maxRecDepth 100000 in
theorem lc_undo {g : jG} {K : jK} {Q : State → Prop} {b L i : Nat} {xs : Nat → Int32} (h : jH g K RL cL_law 4 (some .boolean)) (hX : jX g K b L xs) (hL : L ≤ 1536) (hi : i + 3 ≤ L) {σ : Sg} {X : Xs} {M : Ms} (S : SI σ) (RX : XR X σ) (RM : MX M σ) (kk : ∀ (σ' : Sg) (X' : Xs) (M' : Ms), SI σ' → XR X' σ' → MX M' σ' → JN g room_1 K 4 Q 655 (LOC g b i) [] (mw g (xw g DW X') M') 77 9596) : JN g room_1 K 4 Q 596 (LOC g b i) [] (mw g (xw g DW X) M) 77 9596 := by
  refine n_aload_n h (q := 597) 2 rfl dL_law_596 rfl ?_
  refine n_w (xm_comm g DW X M).symm ?_
  refine n_cV h (q := 600) (C := RX2) (T := TX2) (N := 9) (ci := 2) mo_X2_undo mI_X2_undo mV_X2_undo mL_L_91 (X_undo g (mw g DW M) X σ S RX) (Nat.le_of_ble_eq_true rfl) (Nat.le_of_ble_eq_true rfl) (Nat.le_of_ble_eq_true rfl) (Nat.le_of_ble_eq_true rfl) (by decide) (xw_0 _ _ _) rfl rfl rfl (Nat.le_of_ble_eq_true rfl) dL_law_597 rfl ?_
  rintro _ _ ⟨x, rfl, ex, X', rfl, RX'⟩
  refine n_w (xm_comm g DW X' M) ?_
  refine n_aload_n h (q := 601) 1 rfl dL_law_600 rfl ?_
  refine n_cV h (q := 604) (C := RX3) (T := TX3) (N := 17) (ci := 3) mo_X3_undo mI_X3_undo mV_X3_undo mL_L_94 (M_undo g (xw g DW X') M σ S RM) (Nat.le_of_ble_eq_true rfl) (Nat.le_of_ble_eq_true rfl) (Nat.le_of_ble_eq_true rfl) (Nat.le_of_ble_eq_true rfl) (by decide) (mw_0 _ _ _) rfl rfl rfl (Nat.le_of_ble_eq_true rfl) dL_law_601 rfl ?_
  rintro _ _ ⟨y, rfl, ey, M', rfl, RM'⟩
  refine n_icmp_eq h (tgt := 655) (q := 607) dL_law_604 rfl (by decide) (fun c1 => ?_) (fun c1 => ?_)
  · exact kk _ X' M' (SI_undo' S) RX' RM'
  · exact absurd (ex.trans ey.symm) c1
set_option maxHeartbeats 4000000 in
set_option maxRecDepth 100000 in
theorem lc_save {g : jG} {K : jK} {Q : State → Prop} {b L i : Nat} {xs : Nat → Int32} (h : jH g K RL cL_law 4 (some .boolean)) (hX : jX g K b L xs) (hL : L ≤ 1536) (hi : i + 3 ≤ L) {σ : Sg} {X : Xs} {M : Ms} (S : SI σ) (RX : XR X σ) (RM : MX M σ) (kk : ∀ (σ' : Sg) (X' : Xs) (M' : Ms), SI σ' → XR X' σ' → MX M' σ' → JN g room_1 K 4 Q 655 (LOC g b i) [] (mw g (xw g DW X') M') 77 9596) : JN g room_1 K 4 Q 609 (LOC g b i) [] (mw g (xw g DW X) M) 77 9596 := by
  refine n_aload_n h (q := 610) 2 rfl dL_law_609 rfl ?_
  refine n_arg h hX (q := 615) 1 (by decide) (by omega) hL dL_law_610 dL_law_611 dL_law_612 dL_law_613 dL_law_614 rfl ?_
  refine n_w (xm_comm g DW X M).symm ?_
  refine n_cV h (q := 618) (C := RX2) (T := TX2) (N := 9) (ci := 2) mo_X2_save mI_X2_save mV_X2_save mL_L_95 (X_save g (mw g DW M) X σ S RX _) (Nat.le_of_ble_eq_true rfl) (Nat.le_of_ble_eq_true rfl) (Nat.le_of_ble_eq_true rfl) (Nat.le_of_ble_eq_true rfl) (by decide) (xw_0 _ _ _) rfl rfl rfl (Nat.le_of_ble_eq_true rfl) dL_law_615 rfl ?_
  rintro _ _ ⟨x, rfl, ex, X', rfl, RX'⟩
  refine n_w (xm_comm g DW X' M) ?_
  refine n_aload_n h (q := 619) 1 rfl dL_law_618 rfl ?_
  refine n_arg h hX (q := 624) 1 (by decide) (by omega) hL dL_law_619 dL_law_620 dL_law_621 dL_law_622 dL_law_623 rfl ?_
  refine n_cV h (q := 627) (C := RX3) (T := TX3) (N := 17) (ci := 3) mo_X3_save mI_X3_save mV_X3_save mL_L_98 (M_save g (xw g DW X') M σ S RM _) (Nat.le_of_ble_eq_true rfl) (Nat.le_of_ble_eq_true rfl) (Nat.le_of_ble_eq_true rfl) (Nat.le_of_ble_eq_true rfl) (by decide) (mw_0 _ _ _) rfl rfl rfl (Nat.le_of_ble_eq_true rfl) dL_law_624 rfl ?_
  rintro _ _ ⟨y, rfl, ey, M', rfl, RM'⟩
  refine n_icmp_eq h (tgt := 655) (q := 630) dL_law_627 rfl (by decide) (fun c1 => ?_) (fun c1 => ?_)
  · exact kk _ X' M' (SI_save' S _) RX' RM'
  · exact absurd (ex.trans ey.symm) c1
set_option maxHeartbeats 4000000 in
set_option maxRecDepth 100000 in
theorem lc_restore {g : jG} {K : jK} {Q : State → Prop} {b L i : Nat} {xs : Nat → Int32} (h : jH g K RL cL_law 4 (some .boolean)) (hX : jX g K b L xs) (hL : L ≤ 1536) (hi : i + 3 ≤ L) {σ : Sg} {X : Xs} {M : Ms} (S : SI σ) (RX : XR X σ) (RM : MX M σ) (kk : ∀ (σ' : Sg) (X' : Xs) (M' : Ms), SI σ' → XR X' σ' → MX M' σ' → JN g room_1 K 4 Q 655 (LOC g b i) [] (mw g (xw g DW X') M') 77 9596) : JN g room_1 K 4 Q 632 (LOC g b i) [] (mw g (xw g DW X) M) 77 9596 := by
  refine n_aload_n h (q := 633) 2 rfl dL_law_632 rfl ?_
  refine n_arg h hX (q := 638) 1 (by decide) (by omega) hL dL_law_633 dL_law_634 dL_law_635 dL_law_636 dL_law_637 rfl ?_
  refine n_w (xm_comm g DW X M).symm ?_
  refine n_cV h (q := 641) (C := RX2) (T := TX2) (N := 9) (ci := 2) mo_X2_restore mI_X2_restore mV_X2_restore mL_L_99 (X_restore g (mw g DW M) X σ S RX _) (Nat.le_of_ble_eq_true rfl) (Nat.le_of_ble_eq_true rfl) (Nat.le_of_ble_eq_true rfl) (Nat.le_of_ble_eq_true rfl) (by decide) (xw_0 _ _ _) rfl rfl rfl (Nat.le_of_ble_eq_true rfl) dL_law_638 rfl ?_
  rintro _ _ ⟨x, rfl, ex, X', rfl, RX'⟩
  refine n_w (xm_comm g DW X' M) ?_
  refine n_aload_n h (q := 642) 1 rfl dL_law_641 rfl ?_
  refine n_arg h hX (q := 647) 1 (by decide) (by omega) hL dL_law_642 dL_law_643 dL_law_644 dL_law_645 dL_law_646 rfl ?_
  refine n_cV h (q := 650) (C := RX3) (T := TX3) (N := 17) (ci := 3) mo_X3_restore mI_X3_restore mV_X3_restore mL_L_102 (M_restore g (xw g DW X') M σ S RM _) (Nat.le_of_ble_eq_true rfl) (Nat.le_of_ble_eq_true rfl) (Nat.le_of_ble_eq_true rfl) (Nat.le_of_ble_eq_true rfl) (by decide) (mw_0 _ _ _) rfl rfl rfl (Nat.le_of_ble_eq_true rfl) dL_law_647 rfl ?_
  rintro _ _ ⟨y, rfl, ey, M', rfl, RM'⟩
  refine n_icmp_eq h (tgt := 655) (q := 653) dL_law_650 rfl (by decide) (fun c1 => ?_) (fun c1 => ?_)
  · exact kk _ X' M' (SI_restore' S _) RX' RM'
  · exact absurd (ex.trans ey.symm) c1
