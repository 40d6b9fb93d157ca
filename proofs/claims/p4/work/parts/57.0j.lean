set_option maxHeartbeats 4000000 in
set_option maxRecDepth 100000 in
theorem j_X12_doLay_208 (l : Launch) (D : va_G) (K : zK) (hM : mK K) (f : Nat → Int32) (A : Nat → Nat → Int32) (hT : mT f A) (a0 : Nat) (ha0 : a0 ∈ zl K) (hk0 : zk K a0 = 11) (x1 : Int32) (x2 : Int32) (x3 : Int32) (x4 : Int32) (hp0 : zRow x1.toInt) (hp1 : 0 ≤ x3.toInt ∧ x3.toInt ≤ 3) (hp2 : 0 ≤ x4.toInt ∧ x4.toInt < (A 40 (x1.toInt + x3.toInt + 22).toNat).toInt) (hp3 : rowP (A 40) x1.toInt) (hp4 : nL (A 40) x1.toInt x3.toInt (A 40 (x1.toInt + 26).toNat).toInt) (hp5 : (f 11).toInt ≤ 1950000000) (hp6 : (f 9).toInt ≤ 1950000000) {p : Program} {e : Env} {s : State} {m : MethodId} {args : Array Value} {below : List Frame} {meth : Method} {c : Code} {Q : State → Prop} (hQ : Q = MQ below (mQv D K (fun f' A' => mT f' A' ∧ (∀ k, k ∉ ([40, 48, 50, 53, 55] : List Nat) → A' k = A k) ∧ (∀ k, k ∉ ([9, 11, 14, 16] : List Nat) → f' k = f k) ∧ fC (A 40) (A' 40) x1.toInt ([(5, 5), (9, 9), (14, 14), (15, 18), (19, 19), (20, 20), (22, 25), (26, 26), (27, 30), (31, 34), (39, 42), (43, 43), (110, 169), (230, 469), (470, 529), (530, 589), (590, 649), (650, 709), (710, 769), (770, 829), (830, 889)] : List (Int × Int)) ∧ wz (A 40) (A' 40) x1.toInt ∧ (f 9).toInt ≤ (f' 9).toInt ∧ (f' 9).toInt ≤ (f 9).toInt + 2 ∧ (f 11).toInt ≤ (f' 11).toInt ∧ (f' 11).toInt ≤ (f 11).toInt + 13 ∧ ((f 12).toInt ≠ 0 → (f' 11).toInt = (f 11).toInt) ∧ rowN (A' 40) x1.toInt)) args s 0 0 (zA K)) (C : CallFix p m c cX12_doLay 7 s args zw RX12) (hr : meth.sig.returnType = none) (hlk : meth.locks = false) (hs : zS D K s) : ∀ (A_153 : Nat → Nat → Int32) (H : Heap) (locs : List Loc) (y_151 : Int32) (ls : Array Slot), fC (A 40) (A_153 40) x1.toInt ([(22, 25), (43, 43), (230, 469), (650, 889)] : List (Int × Int)) → (A_153 40 (x1.toInt + x3.toInt + 22).toNat).toInt = (A 40 (x1.toInt + x3.toInt + 22).toNat).toInt - 1 → (∀ q : Int, 0 ≤ q → q ≤ 3 → q ≠ x3.toInt → A_153 40 (x1.toInt + q + 22).toNat = A 40 (x1.toInt + q + 22).toNat) → (A_153 40 (x1.toInt + 43).toNat).toInt ≤ (A 40 (x1.toInt + 43).toNat).toInt + 1 → 0 ≤ (A 40 (x1.toInt + 60 * x3.toInt + x4.toInt + 230).toNat).toInt ∧ (A 40 (x1.toInt + 60 * x3.toInt + x4.toInt + 230).toNat).toInt ≤ 59 → (∀ k, k ∉ ([40, 48, 50, 53, 55] : List Nat) → A_153 k = A k) → fC (A 40) (A_153 40) x1.toInt ([(5, 5), (9, 9), (14, 14), (15, 18), (19, 19), (20, 20), (22, 25), (26, 26), (27, 30), (31, 34), (39, 42), (43, 43), (110, 169), (230, 469), (470, 529), (530, 589), (590, 649), (650, 709), (710, 769), (770, 829), (830, 889)] : List (Int × Int)) → wz (A 40) (A_153 40) x1.toInt → mT f A_153 → va_P D vwCl (zW K (mV K f A_153)) H → va_S (zA K) s.heap H locs → lv_has ls 7 [(0, .ref a0), (1, .int x1), (2, .int x2), (3, .int x3), (4, .int x4), (5, .int (A 40 (x1.toInt + 60 * x3.toInt + x4.toInt + 230).toNat)), (6, .int y_151)] → W p l e (rmd 5) s m args below meth c H locs 0 0 Q (F0 m 208 ls []) := by
  obtain ⟨hx, hb, hml, hown, hts⟩ := id C
  have hO := hM.1
  have FA : ∀ k, k ∉ ([40, 48, 50, 53, 55] : List Nat) → A k = A k := fun _ _ => rfl
  have FF : ∀ k, k ∉ ([9, 11, 14, 16] : List Nat) → f k = f k := fun _ _ => rfl
  have hb0 := hp0.lin
  have tR0 := hT.row hp0
  have hSn := hS_nn (A 40) x1.toInt
  have t21 := tR0.p21
  have t26 := tR0.p26
  have t20 := tR0.p20
  have t43 := tR0.p43
  have hrs := hp3.1
  unfold rS at hrs
  have hSg := hS_ge (C := A 40) (b := x1.toInt) hp1
  have hmx := mx_le (hd (A 40) x1.toInt x3.toInt)
  have hhd : hd (A 40) x1.toInt x3.toInt = (A 40 (x1.toInt + x3.toInt + 22).toNat).toInt := rfl
  have h22 := tR0.p22 x3.toInt hp1.1 hp1.2
  have hly := dL.lt hp3.2.1 hp1 hp4 tR0.p31
  intro A_153 H locs y_151 ls iv_153_0 iv_153_1 iv_153_2 iv_153_3 iv_153_4 FA_153 FC_153 WZ_153 hT hP hS hl
  have FA := FA_153
  have FC := FC_153
  have WZ := WZ_153
  clear hrs hSg hmx hhd hSn t43 t21
  have e20q := iv_153_0.ar hb0.1 (lo := 20) (hi := 20) (by decide) (x1.toInt + 20) (by decide) (by omega) (by omega)
  have e20i := congrArg Int32.toInt e20q
  have e26q := iv_153_0.ar hb0.1 (lo := 26) (hi := 26) (by decide) (x1.toInt + 26) (by decide) (by omega) (by omega)
  have e26i := congrArg Int32.toInt e26q
  refine lv_aload_n hx hb dX12_doLay_208 rfl (lv_at hl 0 rfl) ?_
  refine mg_0 C hs hP ha0 hk0 wf_X12_8 dX12_doLay_209 ?_
  have hf_155 := hO.r (j := 0) ha0 hk0 (rfl : zX 11 0 = some (40, 47730))
  refine lv_iload_n hx hb dX12_doLay_212 rfl (lv_at hl 1 rfl) ?_
  refine lv_bipush (v := 14) hx hb dX12_doLay_213 (by decide) ?_
  refine lv_iadd hx hb dX12_doLay_215 ?_
  refine lv_topi (fun x_156 ex_156 => ?_)
  refine lv_iconst (v := 1) hx hb dX12_doLay_216 (by decide) ?_
  have hi_hr_157 : zEq x_156.toInt (x1.toInt + 14) := by
    have g_158 := z_rng x1
    obtain ⟨f_156, l_156, u_156⟩ := z_add ex_156 rfl ti_14
    try replace f_156 : x_156.toInt = x1.toInt + 14 := by omega
    clear l_156 u_156
    show x_156.toInt = (x1.toInt + 14)
    omega
  have hl_hr_157 : (14 : Int) ≤ 14 ∧ 14 ≤ (14 : Int) := by decide
  have hid_hr_157 : (x1.toInt + 14) = x1.toInt + (14) := by simp only [Int.add_assoc, Int.add_sub_assoc]
  have hr_157 := z_cell (lo := 10) (hi := 19) hp0 hi_hr_157 hid_hr_157 hl_hr_157 (by decide)
  replace hid_hr_157 : zEq (x1.toInt + 14) (x1.toInt + (14)) := hid_hr_157
  have hin_159 : vp_in x_156 (zn K (zr K a0 0)) := vp_in_iff.mpr (by rw [(hf_155.2.2 (by decide))]; exact hr_157.in)
  refine mst_40 C hM hs hP hS hf_155.1 hT hf_155.2.1 hin_159 (tp_10 hr_157) dX12_doLay_217 (fun A_160 H locs hE_160 hT hP hS => ?_)
  have ep_161 : x_156.toNatClampNeg = (x1.toInt + 14).toNat := z_posE hi_hr_157
  rw [ep_161] at hE_160
  clear ep_161
  have FA := frA FA (frAu hE_160) (by decide)
  have FC := fC.tr FC (fC.st (b := x1.toInt) (lo := 14) (hi := 14) hE_160 hb0.1 (by decide) hid_hr_157 hl_hr_157) (by decide)
  have WZ := wz.st WZ hE_160 (Or.inr ⟨by omega, by omega, Or.inl (by omega)⟩)
  refine lv_aload_n hx hb dX12_doLay_218 rfl (lv_at hl 0 rfl) ?_
  refine mg_0 C hs hP ha0 hk0 wf_X12_8 dX12_doLay_219 ?_
  refine lv_iload_n hx hb dX12_doLay_222 rfl (lv_at hl 1 rfl) ?_
  refine lv_bipush (v := 27) hx hb dX12_doLay_223 (by decide) ?_
  refine lv_iadd hx hb dX12_doLay_225 ?_
  refine lv_topi (fun x_162 ex_162 => ?_)
  refine lv_aload_n hx hb dX12_doLay_226 rfl (lv_at hl 0 rfl) ?_
  refine mg_0 C hs hP ha0 hk0 wf_X12_8 dX12_doLay_227 ?_
  refine lv_iload_n hx hb dX12_doLay_230 rfl (lv_at hl 1 rfl) ?_
  refine lv_bipush (v := 26) hx hb dX12_doLay_231 (by decide) ?_
  refine lv_iadd hx hb dX12_doLay_233 ?_
  refine lv_topi (fun x_163 ex_163 => ?_)
  have hi_hr_164 : zEq x_163.toInt (x1.toInt + 26) := by
    have g_165 := z_rng x1
    obtain ⟨f_163, l_163, u_163⟩ := z_add ex_163 rfl ti_26
    try replace f_163 : x_163.toInt = x1.toInt + 26 := by omega
    clear l_163 u_163
    show x_163.toInt = (x1.toInt + 26)
    omega
  have hl_hr_164 : (26 : Int) ≤ 26 ∧ 26 ≤ (26 : Int) := by decide
  have hid_hr_164 : (x1.toInt + 26) = x1.toInt + (26) := by simp only [Int.add_assoc, Int.add_sub_assoc]
  have hr_164 := z_cell (lo := 26) (hi := 26) hp0 hi_hr_164 hid_hr_164 hl_hr_164 (by decide)
  replace hid_hr_164 : zEq (x1.toInt + 26) (x1.toInt + (26)) := hid_hr_164
  have hin_166 : vp_in x_163 (zn K (zr K a0 0)) := vp_in_iff.mpr (by rw [(hf_155.2.2 (by decide))]; exact hr_164.in)
  refine mld_40 C hs hP hf_155.1 hf_155.2.1 hin_166 dX12_doLay_234 ?_
  have ep_167 : x_163.toNatClampNeg = (x1.toInt + 26).toNat := z_posE hi_hr_164
  rw [ep_167]
  have g_169 := z_rng x1
  obtain ⟨f_163, l_163, u_163⟩ := z_add ex_163 rfl ti_26
  try replace f_163 : x_163.toInt = x1.toInt + 26 := by omega
  clear l_163 u_163
  obtain ⟨f_156, l_156, u_156⟩ := z_add ex_156 rfl ti_14
  try replace f_156 : x_156.toInt = x1.toInt + 14 := by omega
  clear l_156 u_156
  have hn_168 : (x1.toInt + 26).toNat ≠ (x1.toInt + 14).toNat := zNe (by omega) (by omega) (by omega)
  have ev_170 : A_160 40 (x1.toInt + 26).toNat = A_153 40 (x1.toInt + 26).toNat := by rw [hE_160, va_up_self, pk_un hn_168]
  clear hn_168
  have tv_171 := rv_26 hT hr_164
  rw [ep_167] at tv_171
  rw [ev_170] at tv_171
  rw [ev_170]
  clear ep_167
  refine lv_iadd hx hb dX12_doLay_235 ?_
  refine lv_topi (fun x_172 ex_172 => ?_)
  refine lv_iload hx hb dX12_doLay_236 (lv_at hl 5 rfl) ?_
  have hi_hr_173 : zEq x_172.toInt (x1.toInt + (A_153 40 (x1.toInt + 26).toNat).toInt + 27) := by
    obtain ⟨f_162, l_162, u_162⟩ := z_add ex_162 rfl ti_27
    try replace f_162 : x_162.toInt = x1.toInt + 27 := by omega
    clear l_162 u_162
    have g_174 := z_rng (A_153 40 (x1.toInt + 26).toNat)
    obtain ⟨f_172, l_172, u_172⟩ := z_add ex_172 rfl rfl
    try replace f_172 : x_172.toInt = x_162.toInt + (A_153 40 (x1.toInt + 26).toNat).toInt := by omega
    clear l_172 u_172
    show x_172.toInt = (x1.toInt + (A_153 40 (x1.toInt + 26).toNat).toInt + 27)
    omega
  have hl_hr_173 : 27 ≤ (A_153 40 (x1.toInt + 26).toNat).toInt + 27 ∧ (A_153 40 (x1.toInt + 26).toNat).toInt + 27 ≤ 30 := by
    have g_175 := z_rng (A_153 40 (x1.toInt + 26).toNat)
    omega
  have hid_hr_173 : (x1.toInt + (A_153 40 (x1.toInt + 26).toNat).toInt + 27) = x1.toInt + ((A_153 40 (x1.toInt + 26).toNat).toInt + 27) := by simp only [Int.add_assoc, Int.add_sub_assoc]
  have hr_173 := z_cell (lo := 27) (hi := 30) hp0 hi_hr_173 hid_hr_173 hl_hr_173 (by decide)
  replace hid_hr_173 : zEq (x1.toInt + (A_153 40 (x1.toInt + 26).toNat).toInt + 27) (x1.toInt + ((A_153 40 (x1.toInt + 26).toNat).toInt + 27)) := hid_hr_173
  have hin_176 : vp_in x_172 (zn K (zr K a0 0)) := vp_in_iff.mpr (by rw [(hf_155.2.2 (by decide))]; exact hr_173.in)
  have g_178 := z_rng (A 40 (x1.toInt + 60 * x3.toInt + x4.toInt + 230).toNat)
  refine mst_40 C hM hs hP hS hf_155.1 hT hf_155.2.1 hin_176 (tp_27 hr_173 (show 0 ≤ (A 40 (x1.toInt + 60 * x3.toInt + x4.toInt + 230).toNat).toInt ∧ (A 40 (x1.toInt + 60 * x3.toInt + x4.toInt + 230).toNat).toInt ≤ 59 from by omega)) dX12_doLay_238 (fun A_177 H locs hE_177 hT hP hS => ?_)
  have ep_179 : x_172.toNatClampNeg = (x1.toInt + (A_153 40 (x1.toInt + 26).toNat).toInt + 27).toNat := z_posE hi_hr_173
  rw [ep_179] at hE_177
  clear ep_179
  have FA := frA FA (frAu hE_177) (by decide)
  have FC := fC.tr FC (fC.st (b := x1.toInt) (lo := 27) (hi := 30) hE_177 hb0.1 (by decide) hid_hr_173 hl_hr_173) (by decide)
  have WZ := wz.st WZ hE_177 (Or.inr ⟨by omega, by omega, Or.inl (by omega)⟩)
  refine lv_aload_n hx hb dX12_doLay_239 rfl (lv_at hl 0 rfl) ?_
  refine mg_0 C hs hP ha0 hk0 wf_X12_8 dX12_doLay_240 ?_
  refine lv_iload_n hx hb dX12_doLay_243 rfl (lv_at hl 1 rfl) ?_
  refine lv_bipush (v := 31) hx hb dX12_doLay_244 (by decide) ?_
  refine lv_iadd hx hb dX12_doLay_246 ?_
  refine lv_topi (fun x_180 ex_180 => ?_)
  refine lv_aload_n hx hb dX12_doLay_247 rfl (lv_at hl 0 rfl) ?_
  refine mg_0 C hs hP ha0 hk0 wf_X12_8 dX12_doLay_248 ?_
  refine lv_iload_n hx hb dX12_doLay_251 rfl (lv_at hl 1 rfl) ?_
  refine lv_bipush (v := 26) hx hb dX12_doLay_252 (by decide) ?_
  refine lv_iadd hx hb dX12_doLay_254 ?_
  refine lv_topi (fun x_181 ex_181 => ?_)
  have hi_hr_182 : zEq x_181.toInt (x1.toInt + 26) := by
    obtain ⟨f_181, l_181, u_181⟩ := z_add ex_181 rfl ti_26
    try replace f_181 : x_181.toInt = x1.toInt + 26 := by omega
    clear l_181 u_181
    show x_181.toInt = (x1.toInt + 26)
    omega
  have hl_hr_182 : (26 : Int) ≤ 26 ∧ 26 ≤ (26 : Int) := by decide
  have hid_hr_182 : (x1.toInt + 26) = x1.toInt + (26) := by simp only [Int.add_assoc, Int.add_sub_assoc]
  have hr_182 := z_cell (lo := 26) (hi := 26) hp0 hi_hr_182 hid_hr_182 hl_hr_182 (by decide)
  replace hid_hr_182 : zEq (x1.toInt + 26) (x1.toInt + (26)) := hid_hr_182
  have hin_183 : vp_in x_181 (zn K (zr K a0 0)) := vp_in_iff.mpr (by rw [(hf_155.2.2 (by decide))]; exact hr_182.in)
  refine mld_40 C hs hP hf_155.1 hf_155.2.1 hin_183 dX12_doLay_255 ?_
  have ep_184 : x_181.toNatClampNeg = (x1.toInt + 26).toNat := z_posE hi_hr_182
  rw [ep_184]
  obtain ⟨f_181, l_181, u_181⟩ := z_add ex_181 rfl ti_26
  try replace f_181 : x_181.toInt = x1.toInt + 26 := by omega
  clear l_181 u_181
  obtain ⟨f_162, l_162, u_162⟩ := z_add ex_162 rfl ti_27
  try replace f_162 : x_162.toInt = x1.toInt + 27 := by omega
  clear l_162 u_162
  have g_186 := z_rng (A_153 40 (x1.toInt + 26).toNat)
  obtain ⟨f_172, l_172, u_172⟩ := z_add ex_172 rfl rfl
  try replace f_172 : x_172.toInt = x_162.toInt + (A_153 40 (x1.toInt + 26).toNat).toInt := by omega
  clear l_172 u_172
  have hn_185 : (x1.toInt + 26).toNat ≠ (x1.toInt + (A_153 40 (x1.toInt + 26).toNat).toInt + 27).toNat := zNe (by omega) (by omega) (by omega)
  have hn_187 : (x1.toInt + 26).toNat ≠ (x1.toInt + 14).toNat := zNe (by omega) (by omega) (by omega)
  have ev_188 : A_177 40 (x1.toInt + 26).toNat = A_153 40 (x1.toInt + 26).toNat := by rw [hE_177, va_up_self, pk_un hn_185, hE_160, va_up_self, pk_un hn_187]
  clear hn_185 hn_187
  rw [ev_188]
  clear ep_184
  refine lv_iadd hx hb dX12_doLay_256 ?_
  refine lv_topi (fun x_189 ex_189 => ?_)
  refine lv_iload_n hx hb dX12_doLay_257 rfl (lv_at hl 3 rfl) ?_
  have hi_hr_190 : zEq x_189.toInt (x1.toInt + (A_153 40 (x1.toInt + 26).toNat).toInt + 31) := by
    obtain ⟨f_180, l_180, u_180⟩ := z_add ex_180 rfl ti_31
    try replace f_180 : x_180.toInt = x1.toInt + 31 := by omega
    clear l_180 u_180
    obtain ⟨f_189, l_189, u_189⟩ := z_add ex_189 rfl rfl
    try replace f_189 : x_189.toInt = x_180.toInt + (A_153 40 (x1.toInt + 26).toNat).toInt := by omega
    clear l_189 u_189
    show x_189.toInt = (x1.toInt + (A_153 40 (x1.toInt + 26).toNat).toInt + 31)
    omega
  have hl_hr_190 : 31 ≤ (A_153 40 (x1.toInt + 26).toNat).toInt + 31 ∧ (A_153 40 (x1.toInt + 26).toNat).toInt + 31 ≤ 34 := by
    omega
  have hid_hr_190 : (x1.toInt + (A_153 40 (x1.toInt + 26).toNat).toInt + 31) = x1.toInt + ((A_153 40 (x1.toInt + 26).toNat).toInt + 31) := by simp only [Int.add_assoc, Int.add_sub_assoc]
  have hr_190 := z_cell (lo := 31) (hi := 34) hp0 hi_hr_190 hid_hr_190 hl_hr_190 (by decide)
  replace hid_hr_190 : zEq (x1.toInt + (A_153 40 (x1.toInt + 26).toNat).toInt + 31) (x1.toInt + ((A_153 40 (x1.toInt + 26).toNat).toInt + 31)) := hid_hr_190
  have hin_191 : vp_in x_189 (zn K (zr K a0 0)) := vp_in_iff.mpr (by rw [(hf_155.2.2 (by decide))]; exact hr_190.in)
  have g_193 := z_rng x3
  refine mst_40 C hM hs hP hS hf_155.1 hT hf_155.2.1 hin_191 (tp_31 hr_190 (show 0 ≤ x3.toInt ∧ x3.toInt ≤ 3 from by omega)) dX12_doLay_258 (fun A_192 H locs hE_192 hT hP hS => ?_)
  have ep_194 : x_189.toNatClampNeg = (x1.toInt + (A_153 40 (x1.toInt + 26).toNat).toInt + 31).toNat := z_posE hi_hr_190
  rw [ep_194] at hE_192
  clear ep_194
  have FA := frA FA (frAu hE_192) (by decide)
  have FC := fC.tr FC (fC.st (b := x1.toInt) (lo := 31) (hi := 34) hE_192 hb0.1 (by decide) hid_hr_190 hl_hr_190) (by decide)
  have WZ := wz.st WZ hE_192 (Or.inr ⟨by omega, by omega, Or.inl (by omega)⟩)
  refine lv_aload_n hx hb dX12_doLay_259 rfl (lv_at hl 0 rfl) ?_
  refine mg_0 C hs hP ha0 hk0 wf_X12_8 dX12_doLay_260 ?_
  refine lv_iload_n hx hb dX12_doLay_263 rfl (lv_at hl 1 rfl) ?_
  refine lv_bipush (v := 26) hx hb dX12_doLay_264 (by decide) ?_
  refine lv_iadd hx hb dX12_doLay_266 ?_
  refine lv_topi (fun x_195 ex_195 => ?_)
  refine lv_dup2_11 hx hb dX12_doLay_267 rfl rfl ?_
  have hi_hr_196 : zEq x_195.toInt (x1.toInt + 26) := by
    obtain ⟨f_195, l_195, u_195⟩ := z_add ex_195 rfl ti_26
    try replace f_195 : x_195.toInt = x1.toInt + 26 := by omega
    clear l_195 u_195
    show x_195.toInt = (x1.toInt + 26)
    omega
  have hl_hr_196 : (26 : Int) ≤ 26 ∧ 26 ≤ (26 : Int) := by decide
  have hid_hr_196 : (x1.toInt + 26) = x1.toInt + (26) := by simp only [Int.add_assoc, Int.add_sub_assoc]
  have hr_196 := z_cell (lo := 26) (hi := 26) hp0 hi_hr_196 hid_hr_196 hl_hr_196 (by decide)
  replace hid_hr_196 : zEq (x1.toInt + 26) (x1.toInt + (26)) := hid_hr_196
  have hin_197 : vp_in x_195 (zn K (zr K a0 0)) := vp_in_iff.mpr (by rw [(hf_155.2.2 (by decide))]; exact hr_196.in)
  refine mld_40 C hs hP hf_155.1 hf_155.2.1 hin_197 dX12_doLay_268 ?_
  have ep_198 : x_195.toNatClampNeg = (x1.toInt + 26).toNat := z_posE hi_hr_196
  rw [ep_198]
  obtain ⟨f_195, l_195, u_195⟩ := z_add ex_195 rfl ti_26
  try replace f_195 : x_195.toInt = x1.toInt + 26 := by omega
  clear l_195 u_195
  obtain ⟨f_180, l_180, u_180⟩ := z_add ex_180 rfl ti_31
  try replace f_180 : x_180.toInt = x1.toInt + 31 := by omega
  clear l_180 u_180
  obtain ⟨f_189, l_189, u_189⟩ := z_add ex_189 rfl rfl
  try replace f_189 : x_189.toInt = x_180.toInt + (A_153 40 (x1.toInt + 26).toNat).toInt := by omega
  clear l_189 u_189
  have hn_199 : (x1.toInt + 26).toNat ≠ (x1.toInt + (A_153 40 (x1.toInt + 26).toNat).toInt + 31).toNat := zNe (by omega) (by omega) (by omega)
  have hn_200 : (x1.toInt + 26).toNat ≠ (x1.toInt + (A_153 40 (x1.toInt + 26).toNat).toInt + 27).toNat := zNe (by omega) (by omega) (by omega)
  have hn_201 : (x1.toInt + 26).toNat ≠ (x1.toInt + 14).toNat := zNe (by omega) (by omega) (by omega)
  have ev_202 : A_192 40 (x1.toInt + 26).toNat = A_153 40 (x1.toInt + 26).toNat := by rw [hE_192, va_up_self, pk_un hn_199, hE_177, va_up_self, pk_un hn_200, hE_160, va_up_self, pk_un hn_201]
  clear hn_199 hn_200 hn_201
  rw [ev_202]
  clear ep_198
  refine lv_iconst (v := 1) hx hb dX12_doLay_269 (by decide) ?_
  refine lv_iadd hx hb dX12_doLay_270 ?_
  refine lv_topi (fun x_203 ex_203 => ?_)
  have hin_204 : vp_in x_195 (zn K (zr K a0 0)) := vp_in_iff.mpr (by rw [(hf_155.2.2 (by decide))]; exact hr_196.in)
  obtain ⟨f_203, l_203, u_203⟩ := z_add ex_203 rfl ti_1
  try replace f_203 : x_203.toInt = (A_153 40 (x1.toInt + 26).toNat).toInt + 1 := by omega
  clear l_203 u_203
  refine mst_40 C hM hs hP hS hf_155.1 hT hf_155.2.1 hin_204 (tp_26 hr_196 (show 0 ≤ x_203.toInt ∧ x_203.toInt ≤ 4 from by omega)) dX12_doLay_271 (fun A_205 H locs hE_205 hT hP hS => ?_)
  have ep_206 : x_195.toNatClampNeg = (x1.toInt + 26).toNat := z_posE hi_hr_196
  rw [ep_206] at hE_205
  clear ep_206
  have FA := frA FA (frAu hE_205) (by decide)
  have FC := fC.tr FC (fC.st (b := x1.toInt) (lo := 26) (hi := 26) hE_205 hb0.1 (by decide) hid_hr_196 hl_hr_196) (by decide)
  have WZ := wz.st WZ hE_205 (Or.inr ⟨by omega, by omega, Or.inl (by omega)⟩)
  refine lv_aload_n hx hb dX12_doLay_272 rfl (lv_at hl 0 rfl) ?_
  refine mg_0 C hs hP ha0 hk0 wf_X12_8 dX12_doLay_273 ?_
  refine lv_iload_n hx hb dX12_doLay_276 rfl (lv_at hl 1 rfl) ?_
  refine lv_bipush (v := 110) hx hb dX12_doLay_277 (by decide) ?_
  refine lv_iadd hx hb dX12_doLay_279 ?_
  refine lv_topi (fun x_207 ex_207 => ?_)
  refine lv_iload hx hb dX12_doLay_280 (lv_at hl 5 rfl) ?_
  refine lv_iadd hx hb dX12_doLay_282 ?_
  refine lv_topi (fun x_208 ex_208 => ?_)
  refine lv_iconst (v := 5) hx hb dX12_doLay_283 (by decide) ?_
  have hi_hr_209 : zEq x_208.toInt (x1.toInt + (A 40 (x1.toInt + 60 * x3.toInt + x4.toInt + 230).toNat).toInt + 110) := by
    obtain ⟨f_207, l_207, u_207⟩ := z_add ex_207 rfl ti_110
    try replace f_207 : x_207.toInt = x1.toInt + 110 := by omega
    clear l_207 u_207
    obtain ⟨f_208, l_208, u_208⟩ := z_add ex_208 rfl rfl
    try replace f_208 : x_208.toInt = x_207.toInt + (A 40 (x1.toInt + 60 * x3.toInt + x4.toInt + 230).toNat).toInt := by omega
    clear l_208 u_208
    show x_208.toInt = (x1.toInt + (A 40 (x1.toInt + 60 * x3.toInt + x4.toInt + 230).toNat).toInt + 110)
    omega
  have hl_hr_209 : 110 ≤ (A 40 (x1.toInt + 60 * x3.toInt + x4.toInt + 230).toNat).toInt + 110 ∧ (A 40 (x1.toInt + 60 * x3.toInt + x4.toInt + 230).toNat).toInt + 110 ≤ 169 := by
    omega
  have hid_hr_209 : (x1.toInt + (A 40 (x1.toInt + 60 * x3.toInt + x4.toInt + 230).toNat).toInt + 110) = x1.toInt + ((A 40 (x1.toInt + 60 * x3.toInt + x4.toInt + 230).toNat).toInt + 110) := by simp only [Int.add_assoc, Int.add_sub_assoc]
  have hr_209 := z_cell (lo := 45) (hi := 169) hp0 hi_hr_209 hid_hr_209 hl_hr_209 (by decide)
  replace hid_hr_209 : zEq (x1.toInt + (A 40 (x1.toInt + 60 * x3.toInt + x4.toInt + 230).toNat).toInt + 110) (x1.toInt + ((A 40 (x1.toInt + 60 * x3.toInt + x4.toInt + 230).toNat).toInt + 110)) := hid_hr_209
  have hin_210 : vp_in x_208 (zn K (zr K a0 0)) := vp_in_iff.mpr (by rw [(hf_155.2.2 (by decide))]; exact hr_209.in)
  refine mst_40 C hM hs hP hS hf_155.1 hT hf_155.2.1 hin_210 (tp_45 hr_209) dX12_doLay_284 (fun A_211 H locs hE_211 hT hP hS => ?_)
  have ep_212 : x_208.toNatClampNeg = (x1.toInt + (A 40 (x1.toInt + 60 * x3.toInt + x4.toInt + 230).toNat).toInt + 110).toNat := z_posE hi_hr_209
  rw [ep_212] at hE_211
  clear ep_212
  have FA := frA FA (frAu hE_211) (by decide)
  have FC := fC.tr FC (fC.st (b := x1.toInt) (lo := 110) (hi := 169) hE_211 hb0.1 (by decide) hid_hr_209 hl_hr_209) (by decide)
  have WZ := wz.st WZ hE_211 (Or.inl (by rw [ti_5]; decide))
  refine lv_aload_n hx hb dX12_doLay_285 rfl (lv_at hl 0 rfl) ?_
  refine lv_iload_n hx hb dX12_doLay_286 rfl (lv_at hl 1 rfl) ?_
  refine lv_iload_n hx hb dX12_doLay_287 rfl (lv_at hl 3 rfl) ?_
  refine lv_aload_n hx hb dX12_doLay_288 rfl (lv_at hl 0 rfl) ?_
  refine lv_iload_n hx hb dX12_doLay_289 rfl (lv_at hl 1 rfl) ?_
  refine lv_iload hx hb dX12_doLay_290 (lv_at hl 5 rfl) ?_
  have hq_213 : 0 ≤ (A 40 (x1.toInt + 60 * x3.toInt + x4.toInt + 230).toNat).toInt ∧ (A 40 (x1.toInt + 60 * x3.toInt + x4.toInt + 230).toNat).toInt ≤ 59 := by (first | assumption | omega | (intros; omega))
  refine zcS (zrV (As := [.int x1, .int (A 40 (x1.toInt + 60 * x3.toInt + x4.toInt + 230).toNat)]) (b := a0) (rest := [.int x3, .int x1, .ref a0]) C hs hP hS (c_X12_colour l D K hM f A_211 hT a0 ha0 hk0 x1 (A 40 (x1.toInt + 60 * x3.toInt + x4.toInt + 230).toNat) hp0 hq_213) m_X12_colour wm_X12_120 (zrecv hs hP ha0 (zF_11 hk0) rfl) ⟨by decide, by decide⟩ hl.1 (Nat.le_of_ble_eq_true rfl) dX12_doLay_292) (fun x_214 p_214 => ?_)
  have pp_214 : x_214 = mcol (A_211 40) x1 (A 40 (x1.toInt + 60 * x3.toInt + x4.toInt + 230).toNat) := p_214
  have pq_214 := congrArg Int32.toInt pp_214
  have g_215 := z_rng x_214
  have hq_216 : 0 ≤ x3.toInt ∧ x3.toInt ≤ 3 := by (first | assumption | omega | (intros; omega))
  refine mcV (zrV (As := [.int x1, .int x3, .int x_214]) (b := a0) (rest := []) C hs hP hS (c_X12_showFound l D K hM f A_211 hT a0 ha0 hk0 x1 x3 x_214 hp0 hq_216) m_X12_showFound wm_X12_214 (zrecv hs hP ha0 (zF_11 hk0) rfl) ⟨by decide, by decide⟩ hl.1 (Nat.le_of_ble_eq_true rfl) dX12_doLay_295) hS (fun f_217 A_217 H locs p_217 hP hS => ?_)
  obtain ⟨hT, hA_217, hF_217, hC_217, hW_217⟩ := p_217
  have hff_217 : f = f_217 := funext (fun k9 => (hF_217 k9 List.not_mem_nil).symm)
  subst hff_217
  have FA := frA FA hA_217 (by decide)
  have FF := frF FF hF_217 (by decide)
  have FC := fC.tr FC hC_217 (by decide)
  have WZ := wz.tr WZ hW_217
  refine lv_aload_n hx hb dX12_doLay_298 rfl (lv_at hl 0 rfl) ?_
  refine mg_0 C hs hP ha0 hk0 wf_X12_8 dX12_doLay_299 ?_
  refine lv_iload_n hx hb dX12_doLay_302 rfl (lv_at hl 1 rfl) ?_
  refine lv_bipush (v := 9) hx hb dX12_doLay_303 (by decide) ?_
  refine lv_iadd hx hb dX12_doLay_305 ?_
  refine lv_topi (fun x_218 ex_218 => ?_)
  refine lv_aload_n hx hb dX12_doLay_306 rfl (lv_at hl 0 rfl) ?_
  refine lv_iload_n hx hb dX12_doLay_307 rfl (lv_at hl 1 rfl) ?_
  refine lv_iload_n hx hb dX12_doLay_308 rfl (lv_at hl 3 rfl) ?_
  refine lv_iconst (v := 1) hx hb dX12_doLay_309 (by decide) ?_
  refine lv_iadd hx hb dX12_doLay_310 ?_
  refine lv_topi (fun x_219 ex_219 => ?_)
  refine lv_iconst (v := 4) hx hb dX12_doLay_311 (by decide) ?_
  refine lv_irem hx hb dX12_doLay_312 (by decide) ?_
  refine lv_topi (fun x_220 ex_220 => ?_)
  obtain ⟨f_219, l_219, u_219⟩ := z_add ex_219 rfl ti_1
  try replace f_219 : x_219.toInt = x3.toInt + 1 := by omega
  clear l_219 u_219
  have f_220 := z_rem ex_220 rfl ti_4 (by decide)
  have hq_221 : 0 ≤ x_220.toInt ∧ x_220.toInt ≤ 4 := by (first | assumption | omega | (intros; omega))
  refine zcS (zrV (As := [.int x1, .int x_220]) (b := a0) (rest := [.int x_218, .ref (zr K a0 0)]) C hs hP hS (c_X12_seatFrom l D K hM f A_217 hT a0 ha0 hk0 x1 x_220 hp0 hq_221) m_X12_seatFrom wm_X12_162 (zrecv hs hP ha0 (zF_11 hk0) rfl) ⟨by decide, by decide⟩ hl.1 (Nat.le_of_ble_eq_true rfl) dX12_doLay_313) (fun x_222 p_222 => ?_)
  have pp_222 : (x_222.toInt = -1 ∨ (0 ≤ x_222.toInt ∧ x_222.toInt ≤ 3 ∧ 1 ≤ (A_217 40 (x1.toInt + x_222.toInt + 22).toNat).toInt ∧ nL (A_217 40) x1.toInt x_222.toInt (A_217 40 (x1.toInt + 26).toNat).toInt)) := p_222
  have tRs := hT.row hp0
  have sfp_222 := zHid.mk pp_222
  clear pp_222
  have FCs := FC
  have WZs := WZ
  have fq_224 : fC (A_153 40) (A_160 40) x1.toInt ([(14, 14), (15, 18), (26, 26), (27, 30), (31, 34), (110, 169), (530, 589), (830, 889)] : List (Int × Int)) := fC.tr fC.rf (fC.s2 (lo := 14) (hi := 14) hE_160 hb0.1 (by decide) ⟨by omega, by omega⟩) (by decide)
  have fq_225 : fC (A_153 40) (A_177 40) x1.toInt ([(14, 14), (15, 18), (26, 26), (27, 30), (31, 34), (110, 169), (530, 589), (830, 889)] : List (Int × Int)) := fC.tr fq_224 (fC.s2 (lo := 27) (hi := 30) hE_177 hb0.1 (by decide) ⟨by omega, by omega⟩) (by decide)
  have fq_226 : fC (A_153 40) (A_192 40) x1.toInt ([(14, 14), (15, 18), (26, 26), (27, 30), (31, 34), (110, 169), (530, 589), (830, 889)] : List (Int × Int)) := fC.tr fq_225 (fC.s2 (lo := 31) (hi := 34) hE_192 hb0.1 (by decide) ⟨by omega, by omega⟩) (by decide)
  have fq_227 : fC (A_153 40) (A_205 40) x1.toInt ([(14, 14), (15, 18), (26, 26), (27, 30), (31, 34), (110, 169), (530, 589), (830, 889)] : List (Int × Int)) := fC.tr fq_226 (fC.s2 (lo := 26) (hi := 26) hE_205 hb0.1 (by decide) ⟨by omega, by omega⟩) (by decide)
  have fq_228 : fC (A_153 40) (A_211 40) x1.toInt ([(14, 14), (15, 18), (26, 26), (27, 30), (31, 34), (110, 169), (530, 589), (830, 889)] : List (Int × Int)) := fC.tr fq_227 (fC.s2 (lo := 110) (hi := 169) hE_211 hb0.1 (by decide) ⟨by omega, by omega⟩) (by decide)
  have fq_229 : fC (A_153 40) (A_217 40) x1.toInt ([(14, 14), (15, 18), (26, 26), (27, 30), (31, 34), (110, 169), (530, 589), (830, 889)] : List (Int × Int)) := fC.tr fq_228 hC_217 (by decide)
  have rq_223 : ∀ j : Int, x1.toInt + 22 ≤ j → j ≤ x1.toInt + 25 → A_217 40 j.toNat = A_153 40 j.toNat := fun j h1 h2 => fC.ar fq_229 hb0.1 (lo := 22) (hi := 25) (by decide) j (by decide) h1 h2
  obtain ⟨f_207, l_207, u_207⟩ := z_add ex_207 rfl ti_110
  try replace f_207 : x_207.toInt = x1.toInt + 110 := by omega
  clear l_207 u_207
  obtain ⟨f_208, l_208, u_208⟩ := z_add ex_208 rfl rfl
  try replace f_208 : x_208.toInt = x_207.toInt + (A 40 (x1.toInt + 60 * x3.toInt + x4.toInt + 230).toNat).toInt := by omega
  clear l_208 u_208
  have es_230 : A_217 40 (x1.toInt + 26).toNat = x_203 := by rw [hC_217.ar (by omega) (lo := 26) (hi := 26) (by decide) (x1.toInt + 26) (by decide) (by omega) (by omega), hE_211, va_up_self, pk_un (zNe (i := (x1.toInt + 26)) (j := (x1.toInt + (A 40 (x1.toInt + 60 * x3.toInt + x4.toInt + 230).toNat).toInt + 110)) (by omega) (by omega) (by omega)), hE_205, va_up_self, pk_us]
  have es_231 : A_217 40 (x1.toInt + 20).toNat = A_153 40 (x1.toInt + 20).toNat := by rw [hC_217.ar (by omega) (lo := 20) (hi := 20) (by decide) (x1.toInt + 20) (by decide) (by omega) (by omega), hE_211, va_up_self, pk_un (zNe (i := (x1.toInt + 20)) (j := (x1.toInt + (A 40 (x1.toInt + 60 * x3.toInt + x4.toInt + 230).toNat).toInt + 110)) (by omega) (by omega) (by omega)), hE_205, va_up_self, pk_un (zNe (i := (x1.toInt + 20)) (j := (x1.toInt + 26)) (by omega) (by omega) (by omega)), hE_192, va_up_self, pk_un (zNe (i := (x1.toInt + 20)) (j := (x1.toInt + (A_153 40 (x1.toInt + 26).toNat).toInt + 31)) (by omega) (by omega) (by omega)), hE_177, va_up_self, pk_un (zNe (i := (x1.toInt + 20)) (j := (x1.toInt + (A_153 40 (x1.toInt + 26).toNat).toInt + 27)) (by omega) (by omega) (by omega)), hE_160, va_up_self, pk_un (zNe (i := (x1.toInt + 20)) (j := (x1.toInt + 14)) (by omega) (by omega) (by omega))]
  have es_232 : A_217 40 (x1.toInt + 43).toNat = A_153 40 (x1.toInt + 43).toNat := by rw [hC_217.ar (by omega) (lo := 43) (hi := 43) (by decide) (x1.toInt + 43) (by decide) (by omega) (by omega), hE_211, va_up_self, pk_un (zNe (i := (x1.toInt + 43)) (j := (x1.toInt + (A 40 (x1.toInt + 60 * x3.toInt + x4.toInt + 230).toNat).toInt + 110)) (by omega) (by omega) (by omega)), hE_205, va_up_self, pk_un (zNe (i := (x1.toInt + 43)) (j := (x1.toInt + 26)) (by omega) (by omega) (by omega)), hE_192, va_up_self, pk_un (zNe (i := (x1.toInt + 43)) (j := (x1.toInt + (A_153 40 (x1.toInt + 26).toNat).toInt + 31)) (by omega) (by omega) (by omega)), hE_177, va_up_self, pk_un (zNe (i := (x1.toInt + 43)) (j := (x1.toInt + (A_153 40 (x1.toInt + 26).toNat).toInt + 27)) (by omega) (by omega) (by omega)), hE_160, va_up_self, pk_un (zNe (i := (x1.toInt + 43)) (j := (x1.toInt + 14)) (by omega) (by omega) (by omega))]
  have rKs := hp3.2.2.fw hb0.1 FC WZ tR0.p1.2 tR0.p21.2 (by decide) (by decide) (by decide)
  have e21s := FC.ar hb0.1 (lo := 21) (hi := 21) (by decide) (x1.toInt + 21) (by decide) (by omega) (by omega)
  have els : ∀ i : Int, 0 ≤ i → i < (A 40 (x1.toInt + 26).toNat).toInt → A_217 40 (x1.toInt + i + 31).toNat = A 40 (x1.toInt + i + 31).toNat := fun i h1 h2 => by
    rw [hC_217.ar hb0.1 (lo := 31) (hi := 34) (by decide) (x1.toInt + i + 31) (by decide) (by omega) (by omega), hE_211, va_up_self, pk_un (zNe (i := (x1.toInt + i + 31)) (j := (x1.toInt + (A 40 (x1.toInt + 60 * x3.toInt + x4.toInt + 230).toNat).toInt + 110)) (by omega) (by omega) (by omega)), hE_205, va_up_self, pk_un (zNe (i := (x1.toInt + i + 31)) (j := (x1.toInt + 26)) (by omega) (by omega) (by omega)), hE_192, va_up_self, pk_un (zNe (i := (x1.toInt + i + 31)) (j := (x1.toInt + (A_153 40 (x1.toInt + 26).toNat).toInt + 31)) (by omega) (by omega) (by omega)), hE_177, va_up_self, pk_un (zNe (i := (x1.toInt + i + 31)) (j := (x1.toInt + (A_153 40 (x1.toInt + 26).toNat).toInt + 27)) (by omega) (by omega) (by omega)), hE_160, va_up_self, pk_un (zNe (i := (x1.toInt + i + 31)) (j := (x1.toInt + 14)) (by omega) (by omega) (by omega))]
    exact iv_153_0.ar hb0.1 (lo := 31) (hi := 34) (by decide) (x1.toInt + i + 31) (by decide) (by omega) (by omega)
  have ens : (A_217 40 (x1.toInt + (A 40 (x1.toInt + 26).toNat).toInt + 31).toNat).toInt = x3.toInt := by
    rw [← e26q]
    rw [hC_217.ar hb0.1 (lo := 31) (hi := 34) (by decide) (x1.toInt + (A_153 40 (x1.toInt + 26).toNat).toInt + 31) (by decide) (by omega) (by omega), hE_211, va_up_self, pk_un (zNe (i := (x1.toInt + (A_153 40 (x1.toInt + 26).toNat).toInt + 31)) (j := (x1.toInt + (A 40 (x1.toInt + 60 * x3.toInt + x4.toInt + 230).toNat).toInt + 110)) (by omega) (by omega) (by omega)), hE_205, va_up_self, pk_un (zNe (i := (x1.toInt + (A_153 40 (x1.toInt + 26).toNat).toInt + 31)) (j := (x1.toInt + 26)) (by omega) (by omega) (by omega)), hE_192, va_up_self, pk_us]
  have rPs := rowP.dl (C1 := A_217 40) hp3 tR0 hp1 hp4 (by show 1 ≤ (A 40 (x1.toInt + x3.toInt + 22).toNat).toInt; omega) (by unfold hd; rw [rq_223 (x1.toInt + x3.toInt + 22) (by omega) (by omega)]; exact iv_153_1) (fun q9 h1 h2 h3 => by unfold hd; rw [rq_223 (x1.toInt + q9 + 22) (by omega) (by omega), iv_153_2 q9 h1 h2 h3]) (by rw [e21s]) (by rw [es_231, e20q]) (by rw [es_230]; omega) (by rw [es_232]; exact iv_153_3) els ens rKs
  have hi_hr_233 : zEq x_218.toInt (x1.toInt + 9) := by
    obtain ⟨f_218, l_218, u_218⟩ := z_add ex_218 rfl ti_9
    try replace f_218 : x_218.toInt = x1.toInt + 9 := by omega
    clear l_218 u_218
    show x_218.toInt = (x1.toInt + 9)
    omega
  have hl_hr_233 : (9 : Int) ≤ 9 ∧ 9 ≤ (9 : Int) := by decide
  have hid_hr_233 : (x1.toInt + 9) = x1.toInt + (9) := by simp only [Int.add_assoc, Int.add_sub_assoc]
  have hr_233 := z_cell (lo := 9) (hi := 9) hp0 hi_hr_233 hid_hr_233 hl_hr_233 (by decide)
  replace hid_hr_233 : zEq (x1.toInt + 9) (x1.toInt + (9)) := hid_hr_233
  have hin_234 : vp_in x_218 (zn K (zr K a0 0)) := vp_in_iff.mpr (by rw [(hf_155.2.2 (by decide))]; exact hr_233.in)
  have g_236 := z_rng x_222
  refine mst_40 C hM hs hP hS hf_155.1 hT hf_155.2.1 hin_234 (tp_9 hr_233 (show -1 ≤ x_222.toInt ∧ x_222.toInt ≤ 3 from by omega)) dX12_doLay_316 (fun A_235 H locs hE_235 hT hP hS => ?_)
  have ep_237 : x_218.toNatClampNeg = (x1.toInt + 9).toNat := z_posE hi_hr_233
  rw [ep_237] at hE_235
  clear ep_237
  have FA := frA FA (frAu hE_235) (by decide)
  have FC := fC.tr FC (fC.st (b := x1.toInt) (lo := 9) (hi := 9) hE_235 hb0.1 (by decide) hid_hr_233 hl_hr_233) (by decide)
  have WZ := wz.st WZ hE_235 (Or.inr ⟨by omega, by omega, Or.inl (by omega)⟩)
  have hRN := rowN.nx rPs tRs hb0.1 hE_235 sfp_222
  refine lv_aload_n hx hb dX12_doLay_317 rfl (lv_at hl 0 rfl) ?_
  refine mg_0 C hs hP ha0 hk0 wf_X12_8 dX12_doLay_318 ?_
  refine lv_iload_n hx hb dX12_doLay_321 rfl (lv_at hl 1 rfl) ?_
  refine lv_bipush (v := 9) hx hb dX12_doLay_322 (by decide) ?_
  refine lv_iadd hx hb dX12_doLay_324 ?_
  refine lv_topi (fun x_238 ex_238 => ?_)
  have hi_hr_239 : zEq x_238.toInt (x1.toInt + 9) := by
    obtain ⟨f_238, l_238, u_238⟩ := z_add ex_238 rfl ti_9
    try replace f_238 : x_238.toInt = x1.toInt + 9 := by omega
    clear l_238 u_238
    show x_238.toInt = (x1.toInt + 9)
    omega
  have hl_hr_239 : (9 : Int) ≤ 9 ∧ 9 ≤ (9 : Int) := by decide
  have hid_hr_239 : (x1.toInt + 9) = x1.toInt + (9) := by simp only [Int.add_assoc, Int.add_sub_assoc]
  have hr_239 := z_cell (lo := 9) (hi := 9) hp0 hi_hr_239 hid_hr_239 hl_hr_239 (by decide)
  replace hid_hr_239 : zEq (x1.toInt + 9) (x1.toInt + (9)) := hid_hr_239
  have hin_240 : vp_in x_238 (zn K (zr K a0 0)) := vp_in_iff.mpr (by rw [(hf_155.2.2 (by decide))]; exact hr_239.in)
  refine mld_40 C hs hP hf_155.1 hf_155.2.1 hin_240 dX12_doLay_325 ?_
  have ep_241 : x_238.toNatClampNeg = (x1.toInt + 9).toNat := z_posE hi_hr_239
  rw [ep_241]
  have ev_242 : A_235 40 (x1.toInt + 9).toNat = x_222 := by rw [hE_235, va_up_self, pk_us]
  have tv_243 := rv_9 hT hr_239
  rw [ep_241] at tv_243
  rw [ev_242] at tv_243
  rw [ev_242]
  clear ep_241
  refine lv_iconst (v := (-1)) hx hb dX12_doLay_326 (by decide) ?_
  refine bi_ne (tgt := 336) hx hb rfl ti_m1 dX12_doLay_327 (by decide) (fun c_244 => ?_) (fun c_244 => ?_)
  · skip
    exact maV hQ hx hb hr hlk hP hS ⟨hT, FA, FF, FC, WZ, ⟨by omega, by omega, by omega, by omega, fun h9 => by omega, hRN⟩⟩ dX12_doLay_336
  · skip
    refine lv_aload_n hx hb dX12_doLay_330 rfl (lv_at hl 0 rfl) ?_
    refine lv_iload_n hx hb dX12_doLay_331 rfl (lv_at hl 1 rfl) ?_
    refine lv_iload_n hx hb dX12_doLay_332 rfl (lv_at hl 2 rfl) ?_
    have g_245 := z_rng x2
    have hq_246 : rowP (A_235 40) x1.toInt := by exact hRN.1
    obtain ⟨f_218, l_218, u_218⟩ := z_add ex_218 rfl ti_9
    try replace f_218 : x_218.toInt = x1.toInt + 9 := by omega
    clear l_218 u_218
    have es_248 : A_235 40 (x1.toInt + 26).toNat = x_203 := by rw [hE_235, va_up_self, pk_un (zNe (i := (x1.toInt + 26)) (j := (x1.toInt + 9)) (by omega) (by omega) (by omega)), hC_217.ar (by omega) (lo := 26) (hi := 26) (by decide) (x1.toInt + 26) (by decide) (by omega) (by omega), hE_211, va_up_self, pk_un (zNe (i := (x1.toInt + 26)) (j := (x1.toInt + (A 40 (x1.toInt + 60 * x3.toInt + x4.toInt + 230).toNat).toInt + 110)) (by omega) (by omega) (by omega)), hE_205, va_up_self, pk_us]
    have hq_247 : 1 ≤ (A_235 40 (x1.toInt + 26).toNat).toInt := by rw [es_248] <;> (first | assumption | omega | (intros; omega))
    have hq_249 : (f 11).toInt ≤ 1960000000 := by (first | assumption | omega | (intros; omega))
    have hq_250 : (f 9).toInt ≤ 1960000000 := by (first | assumption | omega | (intros; omega))
    refine mcV (zrV (As := [.int x1, .int x2]) (b := a0) (rest := []) C hs hP hS (c_X12_endTrick l D K hM f A_235 hT a0 ha0 hk0 x1 x2 hp0 hq_246 hq_247 hq_249 hq_250) m_X12_endTrick wm_X12_217 (zrecv hs hP ha0 (zF_11 hk0) rfl) ⟨by decide, by decide⟩ hl.1 (Nat.le_of_ble_eq_true rfl) dX12_doLay_333) hS (fun f_251 A_251 H locs p_251 hP hS => ?_)
    obtain ⟨hT, hA_251, hF_251, hC_251, hW_251, pp_251⟩ := p_251
    have pp_251 : (f 9).toInt ≤ (f_251 9).toInt ∧ (f_251 9).toInt ≤ (f 9).toInt + 2 ∧ (f 11).toInt ≤ (f_251 11).toInt ∧ (f_251 11).toInt ≤ (f 11).toInt + 13 ∧ ((f 12).toInt ≠ 0 → (f_251 11).toInt = (f 11).toInt) ∧ rowN (A_251 40) x1.toInt := pp_251
    have pp0_251 := zHid.mk pp_251
    have pc_251 := pp_251.1
    have pd_251 := pp_251.2.1
    have pa_251 := pp_251.2.2.1
    have pb_251 := pp_251.2.2.2.1
    have qq_251 := zHid.mk pp_251.2.2.2.2.1
    replace pp_251 := pp_251.2.2.2.2.2
    have FA := frA FA hA_251 (by decide)
    have FF := frF FF hF_251 (by decide)
    have FC := fC.tr FC hC_251 (by decide)
    have WZ := wz.tr WZ hW_251
    have hRN := pp0_251.2.2.2.2.2
    exact maV hQ hx hb hr hlk hP hS ⟨hT, FA, FF, FC, WZ, ⟨by omega, by omega, by omega, by omega, fun h9 => by have hq0 := qq_251 h9; omega, hRN⟩⟩ dX12_doLay_336
