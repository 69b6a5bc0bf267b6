/-! ===== the law, case by case ===== -/
abbrev mL_law : kx_Y := (yL_law, cL_law, 4, some .boolean)
theorem kJ_x {g : kx_H} {x m : Nat} (h : kJ g x m) : ∃ sd, g x = some (kxo x sd) := by
  obtain ⟨T, L, u, n, C, Ac, K, kf, sd, ⟨told, trial, F, B, s, f, hi, -⟩, -⟩ := h
  exact ⟨sd, hi.1⟩
theorem kJ_m {g : kx_H} {x m : Nat} (h : kJ g x m) : ∃ o, g m = some (kmo m o) := by
  obtain ⟨T, L, u, n, C, Ac, K, kf, sd, -, ⟨o, Kf, f, tr, rp, rk, bk, kp, zk, va, hi, -⟩, -⟩ := h
  exact ⟨o, hi.1⟩
set_option maxRecDepth 20000 in
theorem lw_18 {G : kx_G} {N x m b L i : Nat} {xs : Nat → Int32} {g : kx_H} {res : kx_R} (hb : G.2 b = some (L, xs)) (hL : L ≤ 320) (hi : i + 5 ≤ L) (K : kx_Ok mL_law 30 133 2013 G 133 2013 32 [(0, .ref b), (1, .ref x), (2, .ref m), (3, .int (nI i))] [.int (xs i &&& 31)] N g res) : kx_Ok mL_law 30 133 2013 G 133 2013 18 [(0, .ref b), (1, .ref x), (2, .ref m), (3, .int (nI i))] [] N g res := by
  refine ko_iload_n (i := 3) dL_law_18 rfl rfl ?_
  refine ko_aload_n (i := 0) dL_law_19 rfl rfl ?_
  refine ko_rlen dL_law_20 hb ?_
  refine ko_iconst (v := 5) dL_law_21 (by decide) ?_
  refine ko_isub dL_law_22 ?_
  refine ko_icmp_gt (tgt := 879) dL_law_23 (by decide) (fun c_23 => ?_) (fun c_23 => ?_)
  · exfalso
    have h1 : (nI L - 5).toInt = (L : Int) - 5 := pk_sub_toInt (b := 5) (by omega) (by omega)
    have h2 := (Int32.lt_iff_toInt_lt.mp (show nI L - 5 < nI i from c_23))
    rw [h1, nI_toInt (by omega)] at h2
    omega
  · refine ko_aload_n (i := 0) dL_law_26 rfl rfl ?_
    refine ko_iload_n (i := 3) dL_law_27 rfl rfl ?_
    refine ko_rald dL_law_28 hb (vp_in_nI (show i < L by omega) (by omega)) ?_
    rw [nI_clamp (by omega)]
    refine ko_bipush (v := 31) dL_law_29 (by decide) ?_
    refine ko_iand dL_law_31 ?_
    exact K
set_option maxRecDepth 20000 in
theorem lw_873 {G : kx_G} {N x m b i : Nat} {g : kx_H} {res : kx_R} (K : kx_Ok mL_law 30 133 2013 G 133 2013 18 [(0, .ref b), (1, .ref x), (2, .ref m), (3, .int (nI (i + 5)))] [] N g res) : kx_Ok mL_law 30 133 2013 G 133 2013 873 [(0, .ref b), (1, .ref x), (2, .ref m), (3, .int (nI i))] [] N g res := by
  refine ko_iinc (i := 3) (v := _ + 5) (lv' := [(0, _), (1, _), (2, _), (3, _)]) dL_law_873 rfl rfl (by decide) rfl rfl rfl ?_
  refine ko_goto (tgt := 18) dL_law_876 (by decide) ?_
  rw [show nI i + 5 = nI (i + 5) from nI_add i 5]
  exact K
set_option maxRecDepth 20000 in
theorem lw_end {G : kx_G} {N x m b L i : Nat} {xs : Nat → Int32} {g : kx_H} {res : kx_R} (hb : G.2 b = some (L, xs)) (hL : L ≤ 320) (hi : L < i + 5) (hi2 : i ≤ 400) (he : res = (some (.int 1), N, g)) : kx_Ok mL_law 30 133 2013 G 133 2013 18 [(0, .ref b), (1, .ref x), (2, .ref m), (3, .int (nI i))] [] N g res := by
  refine ko_iload_n (i := 3) dL_law_18 rfl rfl ?_
  refine ko_aload_n (i := 0) dL_law_19 rfl rfl ?_
  refine ko_rlen dL_law_20 hb ?_
  refine ko_iconst (v := 5) dL_law_21 (by decide) ?_
  refine ko_isub dL_law_22 ?_
  refine ko_icmp_gt (tgt := 879) dL_law_23 (by decide) (fun c_23 => ?_) (fun c_23 => ?_)
  · refine ko_iconst (v := 1) dL_law_879 (by decide) ?_
    refine ko_zret dL_law_880 rfl (kb_z true) (Nat.le_of_ble_eq_true rfl) (Nat.le_of_ble_eq_true rfl) ?_
    exact he
  · exfalso
    have h1 : (nI L - 5).toInt = (L : Int) - 5 := pk_sub_toInt (b := 5) (by omega) (by omega)
    have h2 : ¬ (nI L - 5).toInt < (nI i).toInt := fun z => c_23 (show nI L - 5 < nI i from Int32.lt_iff_toInt_lt.mpr z)
    rw [h1, nI_toInt (by omega)] at h2
    omega
set_option maxRecDepth 20000 in
theorem lw_c0 {G : kx_G} {N x m b L i : Nat} {xs : Nat → Int32} {g : kx_H} (hb : G.2 b = some (L, xs)) (hL : L ≤ 320) (hi : i + 5 ≤ L) (hm9 : x + 121 < m)  (hJ : kJ g x m) : ∃ g2, kJ g2 x m ∧ ∀ res, kx_Ok mL_law 30 133 2013 G 133 2013 873 [(0, .ref b), (1, .ref x), (2, .ref m), (3, .int (nI i))] [] N g2 res → kx_Ok mL_law 30 133 2013 G 133 2013 152 [(0, .ref b), (1, .ref x), (2, .ref m), (3, .int (nI i))] [] N g res := by
  obtain ⟨sd0, hx0⟩ := kJ_x hJ
  obtain ⟨o0, hm0⟩ := kJ_m hJ
  obtain ⟨r9, g1, g2, f1, f2, J2, lo2, e1⟩ := (show kB mX4_write mX5_write G 29 N x m g [.int (xs (i + 1))] from j_write hm9 (by omega) hJ)
  refine ⟨g2, J2, fun res K => ?_⟩
  refine ko_aload_n (i := 1) dL_law_152 rfl rfl ?_
  refine ko_aload_n (i := 0) dL_law_153 rfl rfl ?_
  refine ko_iload_n (i := 3) dL_law_154 rfl rfl ?_
  refine ko_iconst (v := 1) dL_law_155 (by decide) ?_
  refine ko_iadd dL_law_156 ?_
  rw [show nI i + 1 = nI (i + 1) from nI_add i 1]
  refine ko_rald dL_law_157 hb (vp_in_nI (show i + 1 < L by omega) (by omega)) ?_
  rw [nI_clamp (by omega)]
  refine ko_callVr lk_L_13 dL_law_158 f1 rfl rfl hx0 rfl rfl (by omega) (by omega) (by omega) (Nat.le_of_ble_eq_true rfl) ?_
  refine ko_aload_n (i := 2) dL_law_161 rfl rfl ?_
  refine ko_aload_n (i := 0) dL_law_162 rfl rfl ?_
  refine ko_iload_n (i := 3) dL_law_163 rfl rfl ?_
  refine ko_iconst (v := 1) dL_law_164 (by decide) ?_
  refine ko_iadd dL_law_165 ?_
  rw [show nI i + 1 = nI (i + 1) from nI_add i 1]
  refine ko_rald dL_law_166 hb (vp_in_nI (show i + 1 < L by omega) (by omega)) ?_
  rw [nI_clamp (by omega)]
  refine ko_callVr lk_L_17 dL_law_167 f2 rfl rfl (e1.trans hm0) rfl rfl (by omega) (by omega) (by omega) (Nat.le_of_ble_eq_true rfl) ?_
  refine ko_icmp_eq (tgt := 873) dL_law_170 (by decide) (fun c_170 => ?_) (fun c_170 => ?_)
  · exact K
  · exact absurd rfl c_170
set_option maxRecDepth 20000 in
theorem lw_c1 {G : kx_G} {N x m b L i : Nat} {xs : Nat → Int32} {g : kx_H} (hb : G.2 b = some (L, xs)) (hL : L ≤ 320) (hi : i + 5 ≤ L) (hm9 : x + 121 < m)  (hJ : kJ g x m) : ∃ g2, kJ g2 x m ∧ ∀ res, kx_Ok mL_law 30 133 2013 G 133 2013 873 [(0, .ref b), (1, .ref x), (2, .ref m), (3, .int (nI i))] [] N g2 res → kx_Ok mL_law 30 133 2013 G 133 2013 175 [(0, .ref b), (1, .ref x), (2, .ref m), (3, .int (nI i))] [] N g res := by
  obtain ⟨sd0, hx0⟩ := kJ_x hJ
  obtain ⟨o0, hm0⟩ := kJ_m hJ
  obtain ⟨r9, g1, g2, f1, f2, J2, lo2, e1⟩ := (show kB mX4_wipe mX5_wipe G 29 N x m g [] from j_wipe hm9 (by omega) hJ)
  refine ⟨g2, J2, fun res K => ?_⟩
  refine ko_aload_n (i := 1) dL_law_175 rfl rfl ?_
  refine ko_callVr lk_L_18 dL_law_176 f1 rfl rfl hx0 rfl rfl (by omega) (by omega) (by omega) (Nat.le_of_ble_eq_true rfl) ?_
  refine ko_aload_n (i := 2) dL_law_179 rfl rfl ?_
  refine ko_callVr lk_L_22 dL_law_180 f2 rfl rfl (e1.trans hm0) rfl rfl (by omega) (by omega) (by omega) (Nat.le_of_ble_eq_true rfl) ?_
  refine ko_icmp_eq (tgt := 873) dL_law_183 (by decide) (fun c_183 => ?_) (fun c_183 => ?_)
  · exact K
  · exact absurd rfl c_183
set_option maxRecDepth 20000 in
theorem lw_c2 {G : kx_G} {N x m b L i : Nat} {xs : Nat → Int32} {g : kx_H} (hb : G.2 b = some (L, xs)) (hL : L ≤ 320) (hi : i + 5 ≤ L) (hm9 : x + 121 < m)  (hJ : kJ g x m) : ∃ g2, kJ g2 x m ∧ ∀ res, kx_Ok mL_law 30 133 2013 G 133 2013 873 [(0, .ref b), (1, .ref x), (2, .ref m), (3, .int (nI i))] [] N g2 res → kx_Ok mL_law 30 133 2013 G 133 2013 188 [(0, .ref b), (1, .ref x), (2, .ref m), (3, .int (nI i))] [] N g res := by
  obtain ⟨sd0, hx0⟩ := kJ_x hJ
  obtain ⟨o0, hm0⟩ := kJ_m hJ
  obtain ⟨r9, g1, g2, f1, f2, J2, lo2, e1⟩ := (show kB mX4_fault mX5_fault G 29 N x m g [] from j_fault hm9 (by omega) hJ)
  refine ⟨g2, J2, fun res K => ?_⟩
  refine ko_aload_n (i := 1) dL_law_188 rfl rfl ?_
  refine ko_callVr lk_L_23 dL_law_189 f1 rfl rfl hx0 rfl rfl (by omega) (by omega) (by omega) (Nat.le_of_ble_eq_true rfl) ?_
  refine ko_aload_n (i := 2) dL_law_192 rfl rfl ?_
  refine ko_callVr lk_L_26 dL_law_193 f2 rfl rfl (e1.trans hm0) rfl rfl (by omega) (by omega) (by omega) (Nat.le_of_ble_eq_true rfl) ?_
  refine ko_icmp_eq (tgt := 873) dL_law_196 (by decide) (fun c_196 => ?_) (fun c_196 => ?_)
  · exact K
  · exact absurd rfl c_196
set_option maxRecDepth 20000 in
theorem lw_c3 {G : kx_G} {N x m b L i : Nat} {xs : Nat → Int32} {g : kx_H} (hb : G.2 b = some (L, xs)) (hL : L ≤ 320) (hi : i + 5 ≤ L) (hm9 : x + 121 < m)  (hJ : kJ g x m) : ∃ g2, kJ g2 x m ∧ ∀ res, kx_Ok mL_law 30 133 2013 G 133 2013 873 [(0, .ref b), (1, .ref x), (2, .ref m), (3, .int (nI i))] [] N g2 res → kx_Ok mL_law 30 133 2013 G 133 2013 201 [(0, .ref b), (1, .ref x), (2, .ref m), (3, .int (nI i))] [] N g res := by
  obtain ⟨sd0, hx0⟩ := kJ_x hJ
  obtain ⟨o0, hm0⟩ := kJ_m hJ
  obtain ⟨r9, g1, g2, f1, f2, J2, lo2, e1⟩ := (show kB mX4_land mX5_land G 29 N x m g [] from j_land hm9 (by omega) hJ)
  refine ⟨g2, J2, fun res K => ?_⟩
  refine ko_aload_n (i := 1) dL_law_201 rfl rfl ?_
  refine ko_callVr lk_L_27 dL_law_202 f1 rfl rfl hx0 rfl rfl (by omega) (by omega) (by omega) (Nat.le_of_ble_eq_true rfl) ?_
  refine ko_aload_n (i := 2) dL_law_205 rfl rfl ?_
  refine ko_callVr lk_L_30 dL_law_206 f2 rfl rfl (e1.trans hm0) rfl rfl (by omega) (by omega) (by omega) (Nat.le_of_ble_eq_true rfl) ?_
  refine ko_icmp_eq (tgt := 873) dL_law_209 (by decide) (fun c_209 => ?_) (fun c_209 => ?_)
  · exact K
  · exact absurd rfl c_209
set_option maxRecDepth 20000 in
theorem lw_c4 {G : kx_G} {N x m b L i : Nat} {xs : Nat → Int32} {g : kx_H} (hb : G.2 b = some (L, xs)) (hL : L ≤ 320) (hi : i + 5 ≤ L) (hm9 : x + 121 < m)  (hJ : kJ g x m) : ∃ g2, kJ g2 x m ∧ ∀ res, kx_Ok mL_law 30 133 2013 G 133 2013 873 [(0, .ref b), (1, .ref x), (2, .ref m), (3, .int (nI i))] [] N g2 res → kx_Ok mL_law 30 133 2013 G 133 2013 214 [(0, .ref b), (1, .ref x), (2, .ref m), (3, .int (nI i))] [] N g res := by
  obtain ⟨sd0, hx0⟩ := kJ_x hJ
  obtain ⟨o0, hm0⟩ := kJ_m hJ
  obtain ⟨r9, g1, g2, f1, f2, J2, lo2, e1⟩ := (show kB mX4_about mX5_about G 29 N x m g [.int (xs (i + 1))] from j_about hm9 (by omega) hJ)
  refine ⟨g2, J2, fun res K => ?_⟩
  refine ko_aload_n (i := 1) dL_law_214 rfl rfl ?_
  refine ko_aload_n (i := 0) dL_law_215 rfl rfl ?_
  refine ko_iload_n (i := 3) dL_law_216 rfl rfl ?_
  refine ko_iconst (v := 1) dL_law_217 (by decide) ?_
  refine ko_iadd dL_law_218 ?_
  rw [show nI i + 1 = nI (i + 1) from nI_add i 1]
  refine ko_rald dL_law_219 hb (vp_in_nI (show i + 1 < L by omega) (by omega)) ?_
  rw [nI_clamp (by omega)]
  refine ko_callVr lk_L_31 dL_law_220 f1 rfl rfl hx0 rfl rfl (by omega) (by omega) (by omega) (Nat.le_of_ble_eq_true rfl) ?_
  refine ko_aload_n (i := 2) dL_law_223 rfl rfl ?_
  refine ko_aload_n (i := 0) dL_law_224 rfl rfl ?_
  refine ko_iload_n (i := 3) dL_law_225 rfl rfl ?_
  refine ko_iconst (v := 1) dL_law_226 (by decide) ?_
  refine ko_iadd dL_law_227 ?_
  rw [show nI i + 1 = nI (i + 1) from nI_add i 1]
  refine ko_rald dL_law_228 hb (vp_in_nI (show i + 1 < L by omega) (by omega)) ?_
  rw [nI_clamp (by omega)]
  refine ko_callVr lk_L_34 dL_law_229 f2 rfl rfl (e1.trans hm0) rfl rfl (by omega) (by omega) (by omega) (Nat.le_of_ble_eq_true rfl) ?_
  refine ko_icmp_eq (tgt := 873) dL_law_232 (by decide) (fun c_232 => ?_) (fun c_232 => ?_)
  · exact K
  · exact absurd rfl c_232
set_option maxRecDepth 20000 in
theorem lw_c5 {G : kx_G} {N x m b L i : Nat} {xs : Nat → Int32} {g : kx_H} (hb : G.2 b = some (L, xs)) (hL : L ≤ 320) (hi : i + 5 ≤ L) (hm9 : x + 121 < m)  (hJ : kJ g x m) : ∃ g2, kJ g2 x m ∧ ∀ res, kx_Ok mL_law 30 133 2013 G 133 2013 873 [(0, .ref b), (1, .ref x), (2, .ref m), (3, .int (nI i))] [] N g2 res → kx_Ok mL_law 30 133 2013 G 133 2013 237 [(0, .ref b), (1, .ref x), (2, .ref m), (3, .int (nI i))] [] N g res := by
  obtain ⟨sd0, hx0⟩ := kJ_x hJ
  obtain ⟨o0, hm0⟩ := kJ_m hJ
  obtain ⟨r9, g1, g2, f1, f2, J2, lo2, e1⟩ := (show kB mX4_person mX5_person G 29 N x m g [.int (xs (i + 1)), .int (xs (i + 2))] from j_person hm9 (by omega) hJ)
  refine ⟨g2, J2, fun res K => ?_⟩
  refine ko_aload_n (i := 1) dL_law_237 rfl rfl ?_
  refine ko_aload_n (i := 0) dL_law_238 rfl rfl ?_
  refine ko_iload_n (i := 3) dL_law_239 rfl rfl ?_
  refine ko_iconst (v := 1) dL_law_240 (by decide) ?_
  refine ko_iadd dL_law_241 ?_
  rw [show nI i + 1 = nI (i + 1) from nI_add i 1]
  refine ko_rald dL_law_242 hb (vp_in_nI (show i + 1 < L by omega) (by omega)) ?_
  rw [nI_clamp (by omega)]
  refine ko_aload_n (i := 0) dL_law_243 rfl rfl ?_
  refine ko_iload_n (i := 3) dL_law_244 rfl rfl ?_
  refine ko_iconst (v := 2) dL_law_245 (by decide) ?_
  refine ko_iadd dL_law_246 ?_
  rw [show nI i + 2 = nI (i + 2) from nI_add i 2]
  refine ko_rald dL_law_247 hb (vp_in_nI (show i + 2 < L by omega) (by omega)) ?_
  rw [nI_clamp (by omega)]
  refine ko_callVr lk_L_35 dL_law_248 f1 rfl rfl hx0 rfl rfl (by omega) (by omega) (by omega) (Nat.le_of_ble_eq_true rfl) ?_
  refine ko_aload_n (i := 2) dL_law_251 rfl rfl ?_
  refine ko_aload_n (i := 0) dL_law_252 rfl rfl ?_
  refine ko_iload_n (i := 3) dL_law_253 rfl rfl ?_
  refine ko_iconst (v := 1) dL_law_254 (by decide) ?_
  refine ko_iadd dL_law_255 ?_
  rw [show nI i + 1 = nI (i + 1) from nI_add i 1]
  refine ko_rald dL_law_256 hb (vp_in_nI (show i + 1 < L by omega) (by omega)) ?_
  rw [nI_clamp (by omega)]
  refine ko_aload_n (i := 0) dL_law_257 rfl rfl ?_
  refine ko_iload_n (i := 3) dL_law_258 rfl rfl ?_
  refine ko_iconst (v := 2) dL_law_259 (by decide) ?_
  refine ko_iadd dL_law_260 ?_
  rw [show nI i + 2 = nI (i + 2) from nI_add i 2]
  refine ko_rald dL_law_261 hb (vp_in_nI (show i + 2 < L by omega) (by omega)) ?_
  rw [nI_clamp (by omega)]
  refine ko_callVr lk_L_39 dL_law_262 f2 rfl rfl (e1.trans hm0) rfl rfl (by omega) (by omega) (by omega) (Nat.le_of_ble_eq_true rfl) ?_
  refine ko_icmp_eq (tgt := 873) dL_law_265 (by decide) (fun c_265 => ?_) (fun c_265 => ?_)
  · exact K
  · exact absurd rfl c_265
set_option maxRecDepth 20000 in
theorem lw_c6 {G : kx_G} {N x m b L i : Nat} {xs : Nat → Int32} {g : kx_H} (hb : G.2 b = some (L, xs)) (hL : L ≤ 320) (hi : i + 5 ≤ L) (hm9 : x + 121 < m)  (hJ : kJ g x m) : ∃ g2, kJ g2 x m ∧ ∀ res, kx_Ok mL_law 30 133 2013 G 133 2013 873 [(0, .ref b), (1, .ref x), (2, .ref m), (3, .int (nI i))] [] N g2 res → kx_Ok mL_law 30 133 2013 G 133 2013 270 [(0, .ref b), (1, .ref x), (2, .ref m), (3, .int (nI i))] [] N g res := by
  obtain ⟨sd0, hx0⟩ := kJ_x hJ
  obtain ⟨o0, hm0⟩ := kJ_m hJ
  obtain ⟨r9, g1, g2, f1, f2, J2, lo2, e1⟩ := (show kB mX4_owes mX5_owes G 29 N x m g [.int (xs (i + 1)), .int (xs (i + 2))] from j_owes hm9 (by omega) hJ)
  refine ⟨g2, J2, fun res K => ?_⟩
  refine ko_aload_n (i := 1) dL_law_270 rfl rfl ?_
  refine ko_aload_n (i := 0) dL_law_271 rfl rfl ?_
  refine ko_iload_n (i := 3) dL_law_272 rfl rfl ?_
  refine ko_iconst (v := 1) dL_law_273 (by decide) ?_
  refine ko_iadd dL_law_274 ?_
  rw [show nI i + 1 = nI (i + 1) from nI_add i 1]
  refine ko_rald dL_law_275 hb (vp_in_nI (show i + 1 < L by omega) (by omega)) ?_
  rw [nI_clamp (by omega)]
  refine ko_aload_n (i := 0) dL_law_276 rfl rfl ?_
  refine ko_iload_n (i := 3) dL_law_277 rfl rfl ?_
  refine ko_iconst (v := 2) dL_law_278 (by decide) ?_
  refine ko_iadd dL_law_279 ?_
  rw [show nI i + 2 = nI (i + 2) from nI_add i 2]
  refine ko_rald dL_law_280 hb (vp_in_nI (show i + 2 < L by omega) (by omega)) ?_
  rw [nI_clamp (by omega)]
  refine ko_callVr lk_L_40 dL_law_281 f1 rfl rfl hx0 rfl rfl (by omega) (by omega) (by omega) (Nat.le_of_ble_eq_true rfl) ?_
  refine ko_aload_n (i := 2) dL_law_284 rfl rfl ?_
  refine ko_aload_n (i := 0) dL_law_285 rfl rfl ?_
  refine ko_iload_n (i := 3) dL_law_286 rfl rfl ?_
  refine ko_iconst (v := 1) dL_law_287 (by decide) ?_
  refine ko_iadd dL_law_288 ?_
  rw [show nI i + 1 = nI (i + 1) from nI_add i 1]
  refine ko_rald dL_law_289 hb (vp_in_nI (show i + 1 < L by omega) (by omega)) ?_
  rw [nI_clamp (by omega)]
  refine ko_aload_n (i := 0) dL_law_290 rfl rfl ?_
  refine ko_iload_n (i := 3) dL_law_291 rfl rfl ?_
  refine ko_iconst (v := 2) dL_law_292 (by decide) ?_
  refine ko_iadd dL_law_293 ?_
  rw [show nI i + 2 = nI (i + 2) from nI_add i 2]
  refine ko_rald dL_law_294 hb (vp_in_nI (show i + 2 < L by omega) (by omega)) ?_
  rw [nI_clamp (by omega)]
  refine ko_callVr lk_L_43 dL_law_295 f2 rfl rfl (e1.trans hm0) rfl rfl (by omega) (by omega) (by omega) (Nat.le_of_ble_eq_true rfl) ?_
  refine ko_icmp_eq (tgt := 873) dL_law_298 (by decide) (fun c_298 => ?_) (fun c_298 => ?_)
  · exact K
  · exact absurd rfl c_298
set_option maxRecDepth 20000 in
theorem lw_c7 {G : kx_G} {N x m b L i : Nat} {xs : Nat → Int32} {g : kx_H} (hb : G.2 b = some (L, xs)) (hL : L ≤ 320) (hi : i + 5 ≤ L) (hm9 : x + 121 < m)  (hJ : kJ g x m) : ∃ g2, kJ g2 x m ∧ ∀ res, kx_Ok mL_law 30 133 2013 G 133 2013 873 [(0, .ref b), (1, .ref x), (2, .ref m), (3, .int (nI i))] [] N g2 res → kx_Ok mL_law 30 133 2013 G 133 2013 303 [(0, .ref b), (1, .ref x), (2, .ref m), (3, .int (nI i))] [] N g res := by
  obtain ⟨sd0, hx0⟩ := kJ_x hJ
  obtain ⟨o0, hm0⟩ := kJ_m hJ
  obtain ⟨r9, g1, g2, f1, f2, J2, lo2, e1⟩ := (show kB mX4_funeral mX5_funeral G 29 N x m g [.int (xs (i + 1))] from j_funeral hm9 (by omega) hJ)
  refine ⟨g2, J2, fun res K => ?_⟩
  refine ko_aload_n (i := 1) dL_law_303 rfl rfl ?_
  refine ko_aload_n (i := 0) dL_law_304 rfl rfl ?_
  refine ko_iload_n (i := 3) dL_law_305 rfl rfl ?_
  refine ko_iconst (v := 1) dL_law_306 (by decide) ?_
  refine ko_iadd dL_law_307 ?_
  rw [show nI i + 1 = nI (i + 1) from nI_add i 1]
  refine ko_rald dL_law_308 hb (vp_in_nI (show i + 1 < L by omega) (by omega)) ?_
  rw [nI_clamp (by omega)]
  refine ko_callVr lk_L_44 dL_law_309 f1 rfl rfl hx0 rfl rfl (by omega) (by omega) (by omega) (Nat.le_of_ble_eq_true rfl) ?_
  refine ko_aload_n (i := 2) dL_law_312 rfl rfl ?_
  refine ko_aload_n (i := 0) dL_law_313 rfl rfl ?_
  refine ko_iload_n (i := 3) dL_law_314 rfl rfl ?_
  refine ko_iconst (v := 1) dL_law_315 (by decide) ?_
  refine ko_iadd dL_law_316 ?_
  rw [show nI i + 1 = nI (i + 1) from nI_add i 1]
  refine ko_rald dL_law_317 hb (vp_in_nI (show i + 1 < L by omega) (by omega)) ?_
  rw [nI_clamp (by omega)]
  refine ko_callVr lk_L_47 dL_law_318 f2 rfl rfl (e1.trans hm0) rfl rfl (by omega) (by omega) (by omega) (Nat.le_of_ble_eq_true rfl) ?_
  refine ko_icmp_eq (tgt := 873) dL_law_321 (by decide) (fun c_321 => ?_) (fun c_321 => ?_)
  · exact K
  · exact absurd rfl c_321
set_option maxRecDepth 20000 in
theorem lw_c8 {G : kx_G} {N x m b L i : Nat} {xs : Nat → Int32} {g : kx_H} (hb : G.2 b = some (L, xs)) (hL : L ≤ 320) (hi : i + 5 ≤ L) (hm9 : x + 121 < m)  (hJ : kJ g x m) : ∃ g2, kJ g2 x m ∧ ∀ res, kx_Ok mL_law 30 133 2013 G 133 2013 873 [(0, .ref b), (1, .ref x), (2, .ref m), (3, .int (nI i))] [] N g2 res → kx_Ok mL_law 30 133 2013 G 133 2013 326 [(0, .ref b), (1, .ref x), (2, .ref m), (3, .int (nI i))] [] N g res := by
  obtain ⟨sd0, hx0⟩ := kJ_x hJ
  obtain ⟨o0, hm0⟩ := kJ_m hJ
  obtain ⟨r9, g1, g2, f1, f2, J2, lo2, e1⟩ := (show kB mX4_weep mX5_weep G 29 N x m g [.int (xs (i + 1)), .int (xs (i + 2))] from j_weep hm9 (by omega) hJ)
  refine ⟨g2, J2, fun res K => ?_⟩
  refine ko_aload_n (i := 1) dL_law_326 rfl rfl ?_
  refine ko_aload_n (i := 0) dL_law_327 rfl rfl ?_
  refine ko_iload_n (i := 3) dL_law_328 rfl rfl ?_
  refine ko_iconst (v := 1) dL_law_329 (by decide) ?_
  refine ko_iadd dL_law_330 ?_
  rw [show nI i + 1 = nI (i + 1) from nI_add i 1]
  refine ko_rald dL_law_331 hb (vp_in_nI (show i + 1 < L by omega) (by omega)) ?_
  rw [nI_clamp (by omega)]
  refine ko_aload_n (i := 0) dL_law_332 rfl rfl ?_
  refine ko_iload_n (i := 3) dL_law_333 rfl rfl ?_
  refine ko_iconst (v := 2) dL_law_334 (by decide) ?_
  refine ko_iadd dL_law_335 ?_
  rw [show nI i + 2 = nI (i + 2) from nI_add i 2]
  refine ko_rald dL_law_336 hb (vp_in_nI (show i + 2 < L by omega) (by omega)) ?_
  rw [nI_clamp (by omega)]
  refine ko_callVr lk_L_48 dL_law_337 f1 rfl rfl hx0 rfl rfl (by omega) (by omega) (by omega) (Nat.le_of_ble_eq_true rfl) ?_
  refine ko_aload_n (i := 2) dL_law_340 rfl rfl ?_
  refine ko_aload_n (i := 0) dL_law_341 rfl rfl ?_
  refine ko_iload_n (i := 3) dL_law_342 rfl rfl ?_
  refine ko_iconst (v := 1) dL_law_343 (by decide) ?_
  refine ko_iadd dL_law_344 ?_
  rw [show nI i + 1 = nI (i + 1) from nI_add i 1]
  refine ko_rald dL_law_345 hb (vp_in_nI (show i + 1 < L by omega) (by omega)) ?_
  rw [nI_clamp (by omega)]
  refine ko_aload_n (i := 0) dL_law_346 rfl rfl ?_
  refine ko_iload_n (i := 3) dL_law_347 rfl rfl ?_
  refine ko_iconst (v := 2) dL_law_348 (by decide) ?_
  refine ko_iadd dL_law_349 ?_
  rw [show nI i + 2 = nI (i + 2) from nI_add i 2]
  refine ko_rald dL_law_350 hb (vp_in_nI (show i + 2 < L by omega) (by omega)) ?_
  rw [nI_clamp (by omega)]
  refine ko_callVr lk_L_51 dL_law_351 f2 rfl rfl (e1.trans hm0) rfl rfl (by omega) (by omega) (by omega) (Nat.le_of_ble_eq_true rfl) ?_
  refine ko_icmp_eq (tgt := 873) dL_law_354 (by decide) (fun c_354 => ?_) (fun c_354 => ?_)
  · exact K
  · exact absurd rfl c_354
set_option maxRecDepth 20000 in
theorem lw_c9 {G : kx_G} {N x m b L i : Nat} {xs : Nat → Int32} {g : kx_H} (hb : G.2 b = some (L, xs)) (hL : L ≤ 320) (hi : i + 5 ≤ L) (hm9 : x + 121 < m)  (hJ : kJ g x m) : ∃ g2, kJ g2 x m ∧ ∀ res, kx_Ok mL_law 30 133 2013 G 133 2013 873 [(0, .ref b), (1, .ref x), (2, .ref m), (3, .int (nI i))] [] N g2 res → kx_Ok mL_law 30 133 2013 G 133 2013 359 [(0, .ref b), (1, .ref x), (2, .ref m), (3, .int (nI i))] [] N g res := by
  obtain ⟨sd0, hx0⟩ := kJ_x hJ
  obtain ⟨o0, hm0⟩ := kJ_m hJ
  obtain ⟨r9, g1, g2, f1, f2, J2, lo2, e1⟩ := (show kB mX4_onions mX5_onions G 29 N x m g [.int (xs (i + 1)), .int (xs (i + 2))] from j_onions hm9 (by omega) hJ)
  refine ⟨g2, J2, fun res K => ?_⟩
  refine ko_aload_n (i := 1) dL_law_359 rfl rfl ?_
  refine ko_aload_n (i := 0) dL_law_360 rfl rfl ?_
  refine ko_iload_n (i := 3) dL_law_361 rfl rfl ?_
  refine ko_iconst (v := 1) dL_law_362 (by decide) ?_
  refine ko_iadd dL_law_363 ?_
  rw [show nI i + 1 = nI (i + 1) from nI_add i 1]
  refine ko_rald dL_law_364 hb (vp_in_nI (show i + 1 < L by omega) (by omega)) ?_
  rw [nI_clamp (by omega)]
  refine ko_aload_n (i := 0) dL_law_365 rfl rfl ?_
  refine ko_iload_n (i := 3) dL_law_366 rfl rfl ?_
  refine ko_iconst (v := 2) dL_law_367 (by decide) ?_
  refine ko_iadd dL_law_368 ?_
  rw [show nI i + 2 = nI (i + 2) from nI_add i 2]
  refine ko_rald dL_law_369 hb (vp_in_nI (show i + 2 < L by omega) (by omega)) ?_
  rw [nI_clamp (by omega)]
  refine ko_callVr lk_L_52 dL_law_370 f1 rfl rfl hx0 rfl rfl (by omega) (by omega) (by omega) (Nat.le_of_ble_eq_true rfl) ?_
  refine ko_aload_n (i := 2) dL_law_373 rfl rfl ?_
  refine ko_aload_n (i := 0) dL_law_374 rfl rfl ?_
  refine ko_iload_n (i := 3) dL_law_375 rfl rfl ?_
  refine ko_iconst (v := 1) dL_law_376 (by decide) ?_
  refine ko_iadd dL_law_377 ?_
  rw [show nI i + 1 = nI (i + 1) from nI_add i 1]
  refine ko_rald dL_law_378 hb (vp_in_nI (show i + 1 < L by omega) (by omega)) ?_
  rw [nI_clamp (by omega)]
  refine ko_aload_n (i := 0) dL_law_379 rfl rfl ?_
  refine ko_iload_n (i := 3) dL_law_380 rfl rfl ?_
  refine ko_iconst (v := 2) dL_law_381 (by decide) ?_
  refine ko_iadd dL_law_382 ?_
  rw [show nI i + 2 = nI (i + 2) from nI_add i 2]
  refine ko_rald dL_law_383 hb (vp_in_nI (show i + 2 < L by omega) (by omega)) ?_
  rw [nI_clamp (by omega)]
  refine ko_callVr lk_L_55 dL_law_384 f2 rfl rfl (e1.trans hm0) rfl rfl (by omega) (by omega) (by omega) (Nat.le_of_ble_eq_true rfl) ?_
  refine ko_icmp_eq (tgt := 873) dL_law_387 (by decide) (fun c_387 => ?_) (fun c_387 => ?_)
  · exact K
  · exact absurd rfl c_387
set_option maxRecDepth 20000 in
theorem lw_c10 {G : kx_G} {N x m b L i : Nat} {xs : Nat → Int32} {g : kx_H} (hb : G.2 b = some (L, xs)) (hL : L ≤ 320) (hi : i + 5 ≤ L) (hm9 : x + 121 < m)  (hJ : kJ g x m) : ∃ g2, kJ g2 x m ∧ ∀ res, kx_Ok mL_law 30 133 2013 G 133 2013 873 [(0, .ref b), (1, .ref x), (2, .ref m), (3, .int (nI i))] [] N g2 res → kx_Ok mL_law 30 133 2013 G 133 2013 392 [(0, .ref b), (1, .ref x), (2, .ref m), (3, .int (nI i))] [] N g res := by
  obtain ⟨sd0, hx0⟩ := kJ_x hJ
  obtain ⟨o0, hm0⟩ := kJ_m hJ
  obtain ⟨r9, g1, g2, f1, f2, J2, lo2, e1⟩ := (show kB mX4_week mX5_week G 29 N x m g [] from j_week hm9 (by omega) hJ)
  refine ⟨g2, J2, fun res K => ?_⟩
  refine ko_aload_n (i := 1) dL_law_392 rfl rfl ?_
  refine ko_callVr lk_L_56 dL_law_393 f1 rfl rfl hx0 rfl rfl (by omega) (by omega) (by omega) (Nat.le_of_ble_eq_true rfl) ?_
  refine ko_aload_n (i := 2) dL_law_396 rfl rfl ?_
  refine ko_callVr lk_L_59 dL_law_397 f2 rfl rfl (e1.trans hm0) rfl rfl (by omega) (by omega) (by omega) (Nat.le_of_ble_eq_true rfl) ?_
  refine ko_icmp_eq (tgt := 873) dL_law_400 (by decide) (fun c_400 => ?_) (fun c_400 => ?_)
  · exact K
  · exact absurd rfl c_400
set_option maxRecDepth 20000 in
theorem lw_c11 {G : kx_G} {N x m b L i : Nat} {xs : Nat → Int32} {g : kx_H} (hb : G.2 b = some (L, xs)) (hL : L ≤ 320) (hi : i + 5 ≤ L) (hm9 : x + 121 < m)  (hJ : kJ g x m) : ∃ g2, kJ g2 x m ∧ ∀ res, kx_Ok mL_law 30 133 2013 G 133 2013 873 [(0, .ref b), (1, .ref x), (2, .ref m), (3, .int (nI i))] [] N g2 res → kx_Ok mL_law 30 133 2013 G 133 2013 405 [(0, .ref b), (1, .ref x), (2, .ref m), (3, .int (nI i))] [] N g res := by
  obtain ⟨sd0, hx0⟩ := kJ_x hJ
  obtain ⟨o0, hm0⟩ := kJ_m hJ
  obtain ⟨r9, g1, g2, f1, f2, J2, lo2, e1⟩ := (show kB mX4_undo mX5_undo G 29 N x m g [] from j_undo hm9 (by omega) hJ)
  refine ⟨g2, J2, fun res K => ?_⟩
  refine ko_aload_n (i := 1) dL_law_405 rfl rfl ?_
  refine ko_callVr lk_L_60 dL_law_406 f1 rfl rfl hx0 rfl rfl (by omega) (by omega) (by omega) (Nat.le_of_ble_eq_true rfl) ?_
  refine ko_aload_n (i := 2) dL_law_409 rfl rfl ?_
  refine ko_callVr lk_L_63 dL_law_410 f2 rfl rfl (e1.trans hm0) rfl rfl (by omega) (by omega) (by omega) (Nat.le_of_ble_eq_true rfl) ?_
  refine ko_icmp_eq (tgt := 873) dL_law_413 (by decide) (fun c_413 => ?_) (fun c_413 => ?_)
  · exact K
  · exact absurd rfl c_413
set_option maxRecDepth 20000 in
theorem lw_c12 {G : kx_G} {N x m b L i : Nat} {xs : Nat → Int32} {g : kx_H} (hb : G.2 b = some (L, xs)) (hL : L ≤ 320) (hi : i + 5 ≤ L) (hm9 : x + 121 < m)  (hJ : kJ g x m) : ∃ g2, kJ g2 x m ∧ ∀ res, kx_Ok mL_law 30 133 2013 G 133 2013 873 [(0, .ref b), (1, .ref x), (2, .ref m), (3, .int (nI i))] [] N g2 res → kx_Ok mL_law 30 133 2013 G 133 2013 418 [(0, .ref b), (1, .ref x), (2, .ref m), (3, .int (nI i))] [] N g res := by
  obtain ⟨sd0, hx0⟩ := kJ_x hJ
  obtain ⟨o0, hm0⟩ := kJ_m hJ
  obtain ⟨r9, g1, g2, f1, f2, J2, lo2, e1⟩ := (show kB mX4_served mX5_served G 29 N x m g [.int (xs (i + 1))] from j_served hm9 (by omega) hJ)
  refine ⟨g2, J2, fun res K => ?_⟩
  refine ko_aload_n (i := 1) dL_law_418 rfl rfl ?_
  refine ko_aload_n (i := 0) dL_law_419 rfl rfl ?_
  refine ko_iload_n (i := 3) dL_law_420 rfl rfl ?_
  refine ko_iconst (v := 1) dL_law_421 (by decide) ?_
  refine ko_iadd dL_law_422 ?_
  rw [show nI i + 1 = nI (i + 1) from nI_add i 1]
  refine ko_rald dL_law_423 hb (vp_in_nI (show i + 1 < L by omega) (by omega)) ?_
  rw [nI_clamp (by omega)]
  refine ko_callVr lk_L_64 dL_law_424 f1 rfl rfl hx0 rfl rfl (by omega) (by omega) (by omega) (Nat.le_of_ble_eq_true rfl) ?_
  refine ko_aload_n (i := 2) dL_law_427 rfl rfl ?_
  refine ko_aload_n (i := 0) dL_law_428 rfl rfl ?_
  refine ko_iload_n (i := 3) dL_law_429 rfl rfl ?_
  refine ko_iconst (v := 1) dL_law_430 (by decide) ?_
  refine ko_iadd dL_law_431 ?_
  rw [show nI i + 1 = nI (i + 1) from nI_add i 1]
  refine ko_rald dL_law_432 hb (vp_in_nI (show i + 1 < L by omega) (by omega)) ?_
  rw [nI_clamp (by omega)]
  refine ko_callVr lk_L_67 dL_law_433 f2 rfl rfl (e1.trans hm0) rfl rfl (by omega) (by omega) (by omega) (Nat.le_of_ble_eq_true rfl) ?_
  refine ko_icmp_eq (tgt := 873) dL_law_436 (by decide) (fun c_436 => ?_) (fun c_436 => ?_)
  · exact K
  · exact absurd rfl c_436
set_option maxRecDepth 20000 in
theorem lw_c13 {G : kx_G} {N x m b L i : Nat} {xs : Nat → Int32} {g : kx_H} (hb : G.2 b = some (L, xs)) (hL : L ≤ 320) (hi : i + 5 ≤ L) (hm9 : x + 121 < m)  (hJ : kJ g x m) : ∃ g2, kJ g2 x m ∧ ∀ res, kx_Ok mL_law 30 133 2013 G 133 2013 873 [(0, .ref b), (1, .ref x), (2, .ref m), (3, .int (nI i))] [] N g2 res → kx_Ok mL_law 30 133 2013 G 133 2013 441 [(0, .ref b), (1, .ref x), (2, .ref m), (3, .int (nI i))] [] N g res := by
  obtain ⟨sd0, hx0⟩ := kJ_x hJ
  obtain ⟨o0, hm0⟩ := kJ_m hJ
  obtain ⟨r9, g1, g2, f1, f2, J2, lo2, e1⟩ := (show kB mX4_nobody mX5_nobody G 29 N x m g [.int (xs (i + 1))] from j_nobody hm9 (by omega) hJ)
  refine ⟨g2, J2, fun res K => ?_⟩
  refine ko_aload_n (i := 1) dL_law_441 rfl rfl ?_
  refine ko_aload_n (i := 0) dL_law_442 rfl rfl ?_
  refine ko_iload_n (i := 3) dL_law_443 rfl rfl ?_
  refine ko_iconst (v := 1) dL_law_444 (by decide) ?_
  refine ko_iadd dL_law_445 ?_
  rw [show nI i + 1 = nI (i + 1) from nI_add i 1]
  refine ko_rald dL_law_446 hb (vp_in_nI (show i + 1 < L by omega) (by omega)) ?_
  rw [nI_clamp (by omega)]
  refine ko_callVr lk_L_68 dL_law_447 f1 rfl rfl hx0 rfl rfl (by omega) (by omega) (by omega) (Nat.le_of_ble_eq_true rfl) ?_
  refine ko_aload_n (i := 2) dL_law_450 rfl rfl ?_
  refine ko_aload_n (i := 0) dL_law_451 rfl rfl ?_
  refine ko_iload_n (i := 3) dL_law_452 rfl rfl ?_
  refine ko_iconst (v := 1) dL_law_453 (by decide) ?_
  refine ko_iadd dL_law_454 ?_
  rw [show nI i + 1 = nI (i + 1) from nI_add i 1]
  refine ko_rald dL_law_455 hb (vp_in_nI (show i + 1 < L by omega) (by omega)) ?_
  rw [nI_clamp (by omega)]
  refine ko_callVr lk_L_71 dL_law_456 f2 rfl rfl (e1.trans hm0) rfl rfl (by omega) (by omega) (by omega) (Nat.le_of_ble_eq_true rfl) ?_
  refine ko_icmp_eq (tgt := 873) dL_law_459 (by decide) (fun c_459 => ?_) (fun c_459 => ?_)
  · exact K
  · exact absurd rfl c_459
set_option maxRecDepth 20000 in
theorem lw_c14 {G : kx_G} {N x m b L i : Nat} {xs : Nat → Int32} {g : kx_H} (hb : G.2 b = some (L, xs)) (hL : L ≤ 320) (hi : i + 5 ≤ L) (hm9 : x + 121 < m)  (hJ : kJ g x m) : ∃ g2, kJ g2 x m ∧ ∀ res, kx_Ok mL_law 30 133 2013 G 133 2013 873 [(0, .ref b), (1, .ref x), (2, .ref m), (3, .int (nI i))] [] N g2 res → kx_Ok mL_law 30 133 2013 G 133 2013 464 [(0, .ref b), (1, .ref x), (2, .ref m), (3, .int (nI i))] [] N g res := by
  obtain ⟨sd0, hx0⟩ := kJ_x hJ
  obtain ⟨o0, hm0⟩ := kJ_m hJ
  obtain ⟨r9, g1, g2, f1, f2, J2, lo2, e1⟩ := (show kB mX4_till mX5_till G 29 N x m g [.int (xs (i + 1)), .int (xs (i + 2))] from j_till hm9 (by omega) hJ)
  refine ⟨g2, J2, fun res K => ?_⟩
  refine ko_aload_n (i := 1) dL_law_464 rfl rfl ?_
  refine ko_aload_n (i := 0) dL_law_465 rfl rfl ?_
  refine ko_iload_n (i := 3) dL_law_466 rfl rfl ?_
  refine ko_iconst (v := 1) dL_law_467 (by decide) ?_
  refine ko_iadd dL_law_468 ?_
  rw [show nI i + 1 = nI (i + 1) from nI_add i 1]
  refine ko_rald dL_law_469 hb (vp_in_nI (show i + 1 < L by omega) (by omega)) ?_
  rw [nI_clamp (by omega)]
  refine ko_aload_n (i := 0) dL_law_470 rfl rfl ?_
  refine ko_iload_n (i := 3) dL_law_471 rfl rfl ?_
  refine ko_iconst (v := 2) dL_law_472 (by decide) ?_
  refine ko_iadd dL_law_473 ?_
  rw [show nI i + 2 = nI (i + 2) from nI_add i 2]
  refine ko_rald dL_law_474 hb (vp_in_nI (show i + 2 < L by omega) (by omega)) ?_
  rw [nI_clamp (by omega)]
  refine ko_callVr lk_L_72 dL_law_475 f1 rfl rfl hx0 rfl rfl (by omega) (by omega) (by omega) (Nat.le_of_ble_eq_true rfl) ?_
  refine ko_aload_n (i := 2) dL_law_478 rfl rfl ?_
  refine ko_aload_n (i := 0) dL_law_479 rfl rfl ?_
  refine ko_iload_n (i := 3) dL_law_480 rfl rfl ?_
  refine ko_iconst (v := 1) dL_law_481 (by decide) ?_
  refine ko_iadd dL_law_482 ?_
  rw [show nI i + 1 = nI (i + 1) from nI_add i 1]
  refine ko_rald dL_law_483 hb (vp_in_nI (show i + 1 < L by omega) (by omega)) ?_
  rw [nI_clamp (by omega)]
  refine ko_aload_n (i := 0) dL_law_484 rfl rfl ?_
  refine ko_iload_n (i := 3) dL_law_485 rfl rfl ?_
  refine ko_iconst (v := 2) dL_law_486 (by decide) ?_
  refine ko_iadd dL_law_487 ?_
  rw [show nI i + 2 = nI (i + 2) from nI_add i 2]
  refine ko_rald dL_law_488 hb (vp_in_nI (show i + 2 < L by omega) (by omega)) ?_
  rw [nI_clamp (by omega)]
  refine ko_callVr lk_L_75 dL_law_489 f2 rfl rfl (e1.trans hm0) rfl rfl (by omega) (by omega) (by omega) (Nat.le_of_ble_eq_true rfl) ?_
  refine ko_icmp_eq (tgt := 873) dL_law_492 (by decide) (fun c_492 => ?_) (fun c_492 => ?_)
  · exact K
  · exact absurd rfl c_492
set_option maxRecDepth 20000 in
theorem lw_c15 {G : kx_G} {N x m b L i : Nat} {xs : Nat → Int32} {g : kx_H} (hb : G.2 b = some (L, xs)) (hL : L ≤ 320) (hi : i + 5 ≤ L) (hm9 : x + 121 < m)  (hJ : kJ g x m) : ∃ g2, kJ g2 x m ∧ ∀ res, kx_Ok mL_law 30 133 2013 G 133 2013 873 [(0, .ref b), (1, .ref x), (2, .ref m), (3, .int (nI i))] [] N g2 res → kx_Ok mL_law 30 133 2013 G 133 2013 497 [(0, .ref b), (1, .ref x), (2, .ref m), (3, .int (nI i))] [] N g res := by
  obtain ⟨sd0, hx0⟩ := kJ_x hJ
  obtain ⟨o0, hm0⟩ := kJ_m hJ
  obtain ⟨r9, g1, g2, f1, f2, J2, lo2, e1⟩ := (show kB mX4_net mX5_net G 29 N x m g [.int (xs (i + 1))] from j_net hm9 (by omega) hJ)
  refine ⟨g2, J2, fun res K => ?_⟩
  refine ko_aload_n (i := 1) dL_law_497 rfl rfl ?_
  refine ko_aload_n (i := 0) dL_law_498 rfl rfl ?_
  refine ko_iload_n (i := 3) dL_law_499 rfl rfl ?_
  refine ko_iconst (v := 1) dL_law_500 (by decide) ?_
  refine ko_iadd dL_law_501 ?_
  rw [show nI i + 1 = nI (i + 1) from nI_add i 1]
  refine ko_rald dL_law_502 hb (vp_in_nI (show i + 1 < L by omega) (by omega)) ?_
  rw [nI_clamp (by omega)]
  refine ko_callVr lk_L_76 dL_law_503 f1 rfl rfl hx0 rfl rfl (by omega) (by omega) (by omega) (Nat.le_of_ble_eq_true rfl) ?_
  refine ko_aload_n (i := 2) dL_law_506 rfl rfl ?_
  refine ko_aload_n (i := 0) dL_law_507 rfl rfl ?_
  refine ko_iload_n (i := 3) dL_law_508 rfl rfl ?_
  refine ko_iconst (v := 1) dL_law_509 (by decide) ?_
  refine ko_iadd dL_law_510 ?_
  rw [show nI i + 1 = nI (i + 1) from nI_add i 1]
  refine ko_rald dL_law_511 hb (vp_in_nI (show i + 1 < L by omega) (by omega)) ?_
  rw [nI_clamp (by omega)]
  refine ko_callVr lk_L_79 dL_law_512 f2 rfl rfl (e1.trans hm0) rfl rfl (by omega) (by omega) (by omega) (Nat.le_of_ble_eq_true rfl) ?_
  refine ko_icmp_eq (tgt := 873) dL_law_515 (by decide) (fun c_515 => ?_) (fun c_515 => ?_)
  · exact K
  · exact absurd rfl c_515
set_option maxRecDepth 20000 in
theorem lw_c16 {G : kx_G} {N x m b L i : Nat} {xs : Nat → Int32} {g : kx_H} (hb : G.2 b = some (L, xs)) (hL : L ≤ 320) (hi : i + 5 ≤ L) (hm9 : x + 121 < m)  (hJ : kJ g x m) : ∃ g2, kJ g2 x m ∧ ∀ res, kx_Ok mL_law 30 133 2013 G 133 2013 873 [(0, .ref b), (1, .ref x), (2, .ref m), (3, .int (nI i))] [] N g2 res → kx_Ok mL_law 30 133 2013 G 133 2013 520 [(0, .ref b), (1, .ref x), (2, .ref m), (3, .int (nI i))] [] N g res := by
  obtain ⟨sd0, hx0⟩ := kJ_x hJ
  obtain ⟨o0, hm0⟩ := kJ_m hJ
  obtain ⟨r9, g1, g2, f1, f2, J2, lo2, e1⟩ := (show kB mX4_ring mX5_ring G 29 N x m g [] from j_ring hm9 (by omega) hJ)
  refine ⟨g2, J2, fun res K => ?_⟩
  refine ko_aload_n (i := 1) dL_law_520 rfl rfl ?_
  refine ko_callVr lk_L_80 dL_law_521 f1 rfl rfl hx0 rfl rfl (by omega) (by omega) (by omega) (Nat.le_of_ble_eq_true rfl) ?_
  refine ko_aload_n (i := 2) dL_law_524 rfl rfl ?_
  refine ko_callVr lk_L_83 dL_law_525 f2 rfl rfl (e1.trans hm0) rfl rfl (by omega) (by omega) (by omega) (Nat.le_of_ble_eq_true rfl) ?_
  refine ko_icmp_eq (tgt := 873) dL_law_528 (by decide) (fun c_528 => ?_) (fun c_528 => ?_)
  · exact K
  · exact absurd rfl c_528
set_option maxRecDepth 20000 in
theorem lw_c17 {G : kx_G} {N x m b L i : Nat} {xs : Nat → Int32} {g : kx_H} (hb : G.2 b = some (L, xs)) (hL : L ≤ 320) (hi : i + 5 ≤ L) (hm9 : x + 121 < m) (hG : G.2 G.1 = some (6, fcF)) (hJ : kJ g x m) : ∃ g2, kJ g2 x m ∧ ∀ res, kx_Ok mL_law 30 133 2013 G 133 2013 873 [(0, .ref b), (1, .ref x), (2, .ref m), (3, .int (nI i))] [] N g2 res → kx_Ok mL_law 30 133 2013 G 133 2013 533 [(0, .ref b), (1, .ref x), (2, .ref m), (3, .int (nI i))] [] N g res := by
  obtain ⟨sd0, hx0⟩ := kJ_x hJ
  obtain ⟨o0, hm0⟩ := kJ_m hJ
  obtain ⟨r9, g1, g2, f1, f2, J2, lo2, e1⟩ := (show kB mX4_share mX5_share G 29 N x m g [.int (xs (i + 1)), .int (kb (!decide (xs (i + 2) = 0)))] from j_share hm9 (by omega) hG hJ)
  refine ⟨g2, J2, fun res K => ?_⟩
  refine ko_aload_n (i := 1) dL_law_533 rfl rfl ?_
  refine ko_aload_n (i := 0) dL_law_534 rfl rfl ?_
  refine ko_iload_n (i := 3) dL_law_535 rfl rfl ?_
  refine ko_iconst (v := 1) dL_law_536 (by decide) ?_
  refine ko_iadd dL_law_537 ?_
  rw [show nI i + 1 = nI (i + 1) from nI_add i 1]
  refine ko_rald dL_law_538 hb (vp_in_nI (show i + 1 < L by omega) (by omega)) ?_
  rw [nI_clamp (by omega)]
  refine ko_aload_n (i := 0) dL_law_539 rfl rfl ?_
  refine ko_iload_n (i := 3) dL_law_540 rfl rfl ?_
  refine ko_iconst (v := 2) dL_law_541 (by decide) ?_
  refine ko_iadd dL_law_542 ?_
  rw [show nI i + 2 = nI (i + 2) from nI_add i 2]
  refine ko_rald dL_law_543 hb (vp_in_nI (show i + 2 < L by omega) (by omega)) ?_
  rw [nI_clamp (by omega)]
  refine ko_if_eq (tgt := 551) dL_law_544 (by decide) (fun c_544 => ?_) (fun c_544 => ?_)
  · refine ko_iconst (v := 0) dL_law_551 (by decide) ?_
    refine ko_st (st' := [.int (kb (!decide (xs (i + 2) = 0))), .int (xs (i + 1)), .ref x]) (by first | (simp [kb, c_544]; done)) ?_
    refine ko_callVr lk_L_84 dL_law_552 f1 rfl rfl hx0 rfl rfl (by omega) (by omega) (by omega) (Nat.le_of_ble_eq_true rfl) ?_
    refine ko_aload_n (i := 2) dL_law_555 rfl rfl ?_
    refine ko_aload_n (i := 0) dL_law_556 rfl rfl ?_
    refine ko_iload_n (i := 3) dL_law_557 rfl rfl ?_
    refine ko_iconst (v := 1) dL_law_558 (by decide) ?_
    refine ko_iadd dL_law_559 ?_
    rw [show nI i + 1 = nI (i + 1) from nI_add i 1]
    refine ko_rald dL_law_560 hb (vp_in_nI (show i + 1 < L by omega) (by omega)) ?_
    rw [nI_clamp (by omega)]
    refine ko_aload_n (i := 0) dL_law_561 rfl rfl ?_
    refine ko_iload_n (i := 3) dL_law_562 rfl rfl ?_
    refine ko_iconst (v := 2) dL_law_563 (by decide) ?_
    refine ko_iadd dL_law_564 ?_
    rw [show nI i + 2 = nI (i + 2) from nI_add i 2]
    refine ko_rald dL_law_565 hb (vp_in_nI (show i + 2 < L by omega) (by omega)) ?_
    rw [nI_clamp (by omega)]
    refine ko_if_eq (tgt := 573) dL_law_566 (by decide) (fun c_566 => ?_) (fun c_566 => ?_)
    · refine ko_iconst (v := 0) dL_law_573 (by decide) ?_
      refine ko_st (st' := [.int (kb (!decide (xs (i + 2) = 0))), .int (xs (i + 1)), .ref m, .int r9]) (by first | (simp [kb, c_544, c_566]; done) | exact absurd c_544 c_566 | exact absurd c_566 c_544) ?_
      refine ko_callVr lk_L_88 dL_law_574 f2 rfl rfl (e1.trans hm0) rfl rfl (by omega) (by omega) (by omega) (Nat.le_of_ble_eq_true rfl) ?_
      refine ko_icmp_eq (tgt := 873) dL_law_577 (by decide) (fun c_577 => ?_) (fun c_577 => ?_)
      · exact K
      · exact absurd rfl c_577
    · refine ko_iconst (v := 1) dL_law_569 (by decide) ?_
      refine ko_goto (tgt := 574) dL_law_570 (by decide) ?_
      refine ko_st (st' := [.int (kb (!decide (xs (i + 2) = 0))), .int (xs (i + 1)), .ref m, .int r9]) (by first | (simp [kb, c_544, c_566]; done) | exact absurd c_544 c_566 | exact absurd c_566 c_544) ?_
      refine ko_callVr lk_L_88 dL_law_574 f2 rfl rfl (e1.trans hm0) rfl rfl (by omega) (by omega) (by omega) (Nat.le_of_ble_eq_true rfl) ?_
      refine ko_icmp_eq (tgt := 873) dL_law_577 (by decide) (fun c_577 => ?_) (fun c_577 => ?_)
      · exact K
      · exact absurd rfl c_577
  · refine ko_iconst (v := 1) dL_law_547 (by decide) ?_
    refine ko_goto (tgt := 552) dL_law_548 (by decide) ?_
    refine ko_st (st' := [.int (kb (!decide (xs (i + 2) = 0))), .int (xs (i + 1)), .ref x]) (by first | (simp [kb, c_544]; done)) ?_
    refine ko_callVr lk_L_84 dL_law_552 f1 rfl rfl hx0 rfl rfl (by omega) (by omega) (by omega) (Nat.le_of_ble_eq_true rfl) ?_
    refine ko_aload_n (i := 2) dL_law_555 rfl rfl ?_
    refine ko_aload_n (i := 0) dL_law_556 rfl rfl ?_
    refine ko_iload_n (i := 3) dL_law_557 rfl rfl ?_
    refine ko_iconst (v := 1) dL_law_558 (by decide) ?_
    refine ko_iadd dL_law_559 ?_
    rw [show nI i + 1 = nI (i + 1) from nI_add i 1]
    refine ko_rald dL_law_560 hb (vp_in_nI (show i + 1 < L by omega) (by omega)) ?_
    rw [nI_clamp (by omega)]
    refine ko_aload_n (i := 0) dL_law_561 rfl rfl ?_
    refine ko_iload_n (i := 3) dL_law_562 rfl rfl ?_
    refine ko_iconst (v := 2) dL_law_563 (by decide) ?_
    refine ko_iadd dL_law_564 ?_
    rw [show nI i + 2 = nI (i + 2) from nI_add i 2]
    refine ko_rald dL_law_565 hb (vp_in_nI (show i + 2 < L by omega) (by omega)) ?_
    rw [nI_clamp (by omega)]
    refine ko_if_eq (tgt := 573) dL_law_566 (by decide) (fun c_566 => ?_) (fun c_566 => ?_)
    · refine ko_iconst (v := 0) dL_law_573 (by decide) ?_
      refine ko_st (st' := [.int (kb (!decide (xs (i + 2) = 0))), .int (xs (i + 1)), .ref m, .int r9]) (by first | (simp [kb, c_544, c_566]; done) | exact absurd c_544 c_566 | exact absurd c_566 c_544) ?_
      refine ko_callVr lk_L_88 dL_law_574 f2 rfl rfl (e1.trans hm0) rfl rfl (by omega) (by omega) (by omega) (Nat.le_of_ble_eq_true rfl) ?_
      refine ko_icmp_eq (tgt := 873) dL_law_577 (by decide) (fun c_577 => ?_) (fun c_577 => ?_)
      · exact K
      · exact absurd rfl c_577
    · refine ko_iconst (v := 1) dL_law_569 (by decide) ?_
      refine ko_goto (tgt := 574) dL_law_570 (by decide) ?_
      refine ko_st (st' := [.int (kb (!decide (xs (i + 2) = 0))), .int (xs (i + 1)), .ref m, .int r9]) (by first | (simp [kb, c_544, c_566]; done) | exact absurd c_544 c_566 | exact absurd c_566 c_544) ?_
      refine ko_callVr lk_L_88 dL_law_574 f2 rfl rfl (e1.trans hm0) rfl rfl (by omega) (by omega) (by omega) (Nat.le_of_ble_eq_true rfl) ?_
      refine ko_icmp_eq (tgt := 873) dL_law_577 (by decide) (fun c_577 => ?_) (fun c_577 => ?_)
      · exact K
      · exact absurd rfl c_577
set_option maxRecDepth 20000 in
theorem lw_c18 {G : kx_G} {N x m b L i : Nat} {xs : Nat → Int32} {g : kx_H} (hb : G.2 b = some (L, xs)) (hL : L ≤ 320) (hi : i + 5 ≤ L) (hm9 : x + 121 < m)  (hJ : kJ g x m) : ∃ g2, kJ g2 x m ∧ ∀ res, kx_Ok mL_law 30 133 2013 G 133 2013 873 [(0, .ref b), (1, .ref x), (2, .ref m), (3, .int (nI i))] [] N g2 res → kx_Ok mL_law 30 133 2013 G 133 2013 582 [(0, .ref b), (1, .ref x), (2, .ref m), (3, .int (nI i))] [] N g res := by
  obtain ⟨sd0, hx0⟩ := kJ_x hJ
  obtain ⟨o0, hm0⟩ := kJ_m hJ
  obtain ⟨r9, g1, g2, f1, f2, J2, lo2, e1⟩ := (show kB mX4_weighed mX5_weighed G 29 N x m g [.int (xs (i + 1)), .int (xs (i + 2)), .int (xs (i + 3))] from j_weighed hm9 (by omega) hJ)
  refine ⟨g2, J2, fun res K => ?_⟩
  refine ko_aload_n (i := 1) dL_law_582 rfl rfl ?_
  refine ko_aload_n (i := 0) dL_law_583 rfl rfl ?_
  refine ko_iload_n (i := 3) dL_law_584 rfl rfl ?_
  refine ko_iconst (v := 1) dL_law_585 (by decide) ?_
  refine ko_iadd dL_law_586 ?_
  rw [show nI i + 1 = nI (i + 1) from nI_add i 1]
  refine ko_rald dL_law_587 hb (vp_in_nI (show i + 1 < L by omega) (by omega)) ?_
  rw [nI_clamp (by omega)]
  refine ko_aload_n (i := 0) dL_law_588 rfl rfl ?_
  refine ko_iload_n (i := 3) dL_law_589 rfl rfl ?_
  refine ko_iconst (v := 2) dL_law_590 (by decide) ?_
  refine ko_iadd dL_law_591 ?_
  rw [show nI i + 2 = nI (i + 2) from nI_add i 2]
  refine ko_rald dL_law_592 hb (vp_in_nI (show i + 2 < L by omega) (by omega)) ?_
  rw [nI_clamp (by omega)]
  refine ko_aload_n (i := 0) dL_law_593 rfl rfl ?_
  refine ko_iload_n (i := 3) dL_law_594 rfl rfl ?_
  refine ko_iconst (v := 3) dL_law_595 (by decide) ?_
  refine ko_iadd dL_law_596 ?_
  rw [show nI i + 3 = nI (i + 3) from nI_add i 3]
  refine ko_rald dL_law_597 hb (vp_in_nI (show i + 3 < L by omega) (by omega)) ?_
  rw [nI_clamp (by omega)]
  refine ko_callVr lk_L_89 dL_law_598 f1 rfl rfl hx0 rfl rfl (by omega) (by omega) (by omega) (Nat.le_of_ble_eq_true rfl) ?_
  refine ko_aload_n (i := 2) dL_law_601 rfl rfl ?_
  refine ko_aload_n (i := 0) dL_law_602 rfl rfl ?_
  refine ko_iload_n (i := 3) dL_law_603 rfl rfl ?_
  refine ko_iconst (v := 1) dL_law_604 (by decide) ?_
  refine ko_iadd dL_law_605 ?_
  rw [show nI i + 1 = nI (i + 1) from nI_add i 1]
  refine ko_rald dL_law_606 hb (vp_in_nI (show i + 1 < L by omega) (by omega)) ?_
  rw [nI_clamp (by omega)]
  refine ko_aload_n (i := 0) dL_law_607 rfl rfl ?_
  refine ko_iload_n (i := 3) dL_law_608 rfl rfl ?_
  refine ko_iconst (v := 2) dL_law_609 (by decide) ?_
  refine ko_iadd dL_law_610 ?_
  rw [show nI i + 2 = nI (i + 2) from nI_add i 2]
  refine ko_rald dL_law_611 hb (vp_in_nI (show i + 2 < L by omega) (by omega)) ?_
  rw [nI_clamp (by omega)]
  refine ko_aload_n (i := 0) dL_law_612 rfl rfl ?_
  refine ko_iload_n (i := 3) dL_law_613 rfl rfl ?_
  refine ko_iconst (v := 3) dL_law_614 (by decide) ?_
  refine ko_iadd dL_law_615 ?_
  rw [show nI i + 3 = nI (i + 3) from nI_add i 3]
  refine ko_rald dL_law_616 hb (vp_in_nI (show i + 3 < L by omega) (by omega)) ?_
  rw [nI_clamp (by omega)]
  refine ko_callVr lk_L_93 dL_law_617 f2 rfl rfl (e1.trans hm0) rfl rfl (by omega) (by omega) (by omega) (Nat.le_of_ble_eq_true rfl) ?_
  refine ko_icmp_eq (tgt := 873) dL_law_620 (by decide) (fun c_620 => ?_) (fun c_620 => ?_)
  · exact K
  · exact absurd rfl c_620
set_option maxRecDepth 20000 in
theorem lw_c19 {G : kx_G} {N x m b L i : Nat} {xs : Nat → Int32} {g : kx_H} (hb : G.2 b = some (L, xs)) (hL : L ≤ 320) (hi : i + 5 ≤ L) (hm9 : x + 121 < m)  (hJ : kJ g x m) : ∃ g2, kJ g2 x m ∧ ∀ res, kx_Ok mL_law 30 133 2013 G 133 2013 873 [(0, .ref b), (1, .ref x), (2, .ref m), (3, .int (nI i))] [] N g2 res → kx_Ok mL_law 30 133 2013 G 133 2013 625 [(0, .ref b), (1, .ref x), (2, .ref m), (3, .int (nI i))] [] N g res := by
  obtain ⟨sd0, hx0⟩ := kJ_x hJ
  obtain ⟨o0, hm0⟩ := kJ_m hJ
  obtain ⟨r9, g1, g2, f1, f2, J2, lo2, e1⟩ := (show kB mX4_whose mX5_whose G 29 N x m g [.int (xs (i + 1))] from j_whose hm9 (by omega) hJ)
  refine ⟨g2, J2, fun res K => ?_⟩
  refine ko_aload_n (i := 1) dL_law_625 rfl rfl ?_
  refine ko_aload_n (i := 0) dL_law_626 rfl rfl ?_
  refine ko_iload_n (i := 3) dL_law_627 rfl rfl ?_
  refine ko_iconst (v := 1) dL_law_628 (by decide) ?_
  refine ko_iadd dL_law_629 ?_
  rw [show nI i + 1 = nI (i + 1) from nI_add i 1]
  refine ko_rald dL_law_630 hb (vp_in_nI (show i + 1 < L by omega) (by omega)) ?_
  rw [nI_clamp (by omega)]
  refine ko_callVr lk_L_94 dL_law_631 f1 rfl rfl hx0 rfl rfl (by omega) (by omega) (by omega) (Nat.le_of_ble_eq_true rfl) ?_
  refine ko_aload_n (i := 2) dL_law_634 rfl rfl ?_
  refine ko_aload_n (i := 0) dL_law_635 rfl rfl ?_
  refine ko_iload_n (i := 3) dL_law_636 rfl rfl ?_
  refine ko_iconst (v := 1) dL_law_637 (by decide) ?_
  refine ko_iadd dL_law_638 ?_
  rw [show nI i + 1 = nI (i + 1) from nI_add i 1]
  refine ko_rald dL_law_639 hb (vp_in_nI (show i + 1 < L by omega) (by omega)) ?_
  rw [nI_clamp (by omega)]
  refine ko_callVr lk_L_97 dL_law_640 f2 rfl rfl (e1.trans hm0) rfl rfl (by omega) (by omega) (by omega) (Nat.le_of_ble_eq_true rfl) ?_
  refine ko_icmp_eq (tgt := 873) dL_law_643 (by decide) (fun c_643 => ?_) (fun c_643 => ?_)
  · exact K
  · exact absurd rfl c_643
set_option maxRecDepth 20000 in
theorem lw_c20 {G : kx_G} {N x m b L i : Nat} {xs : Nat → Int32} {g : kx_H} (hb : G.2 b = some (L, xs)) (hL : L ≤ 320) (hi : i + 5 ≤ L) (hm9 : x + 121 < m)  (hJ : kJ g x m) : ∃ g2, kJ g2 x m ∧ ∀ res, kx_Ok mL_law 30 133 2013 G 133 2013 873 [(0, .ref b), (1, .ref x), (2, .ref m), (3, .int (nI i))] [] N g2 res → kx_Ok mL_law 30 133 2013 G 133 2013 648 [(0, .ref b), (1, .ref x), (2, .ref m), (3, .int (nI i))] [] N g res := by
  obtain ⟨sd0, hx0⟩ := kJ_x hJ
  obtain ⟨o0, hm0⟩ := kJ_m hJ
  obtain ⟨r9, g1, g2, f1, f2, J2, lo2, e1⟩ := (show kB mX4_rests mX5_rests G 29 N x m g [.int (xs (i + 1)), .int (xs (i + 2)), .int (xs (i + 3)), .int (xs (i + 4))] from j_rests hm9 (by omega) hJ)
  refine ⟨g2, J2, fun res K => ?_⟩
  refine ko_aload_n (i := 1) dL_law_648 rfl rfl ?_
  refine ko_aload_n (i := 0) dL_law_649 rfl rfl ?_
  refine ko_iload_n (i := 3) dL_law_650 rfl rfl ?_
  refine ko_iconst (v := 1) dL_law_651 (by decide) ?_
  refine ko_iadd dL_law_652 ?_
  rw [show nI i + 1 = nI (i + 1) from nI_add i 1]
  refine ko_rald dL_law_653 hb (vp_in_nI (show i + 1 < L by omega) (by omega)) ?_
  rw [nI_clamp (by omega)]
  refine ko_aload_n (i := 0) dL_law_654 rfl rfl ?_
  refine ko_iload_n (i := 3) dL_law_655 rfl rfl ?_
  refine ko_iconst (v := 2) dL_law_656 (by decide) ?_
  refine ko_iadd dL_law_657 ?_
  rw [show nI i + 2 = nI (i + 2) from nI_add i 2]
  refine ko_rald dL_law_658 hb (vp_in_nI (show i + 2 < L by omega) (by omega)) ?_
  rw [nI_clamp (by omega)]
  refine ko_aload_n (i := 0) dL_law_659 rfl rfl ?_
  refine ko_iload_n (i := 3) dL_law_660 rfl rfl ?_
  refine ko_iconst (v := 3) dL_law_661 (by decide) ?_
  refine ko_iadd dL_law_662 ?_
  rw [show nI i + 3 = nI (i + 3) from nI_add i 3]
  refine ko_rald dL_law_663 hb (vp_in_nI (show i + 3 < L by omega) (by omega)) ?_
  rw [nI_clamp (by omega)]
  refine ko_aload_n (i := 0) dL_law_664 rfl rfl ?_
  refine ko_iload_n (i := 3) dL_law_665 rfl rfl ?_
  refine ko_iconst (v := 4) dL_law_666 (by decide) ?_
  refine ko_iadd dL_law_667 ?_
  rw [show nI i + 4 = nI (i + 4) from nI_add i 4]
  refine ko_rald dL_law_668 hb (vp_in_nI (show i + 4 < L by omega) (by omega)) ?_
  rw [nI_clamp (by omega)]
  refine ko_callVr lk_L_98 dL_law_669 f1 rfl rfl hx0 rfl rfl (by omega) (by omega) (by omega) (Nat.le_of_ble_eq_true rfl) ?_
  refine ko_aload_n (i := 2) dL_law_672 rfl rfl ?_
  refine ko_aload_n (i := 0) dL_law_673 rfl rfl ?_
  refine ko_iload_n (i := 3) dL_law_674 rfl rfl ?_
  refine ko_iconst (v := 1) dL_law_675 (by decide) ?_
  refine ko_iadd dL_law_676 ?_
  rw [show nI i + 1 = nI (i + 1) from nI_add i 1]
  refine ko_rald dL_law_677 hb (vp_in_nI (show i + 1 < L by omega) (by omega)) ?_
  rw [nI_clamp (by omega)]
  refine ko_aload_n (i := 0) dL_law_678 rfl rfl ?_
  refine ko_iload_n (i := 3) dL_law_679 rfl rfl ?_
  refine ko_iconst (v := 2) dL_law_680 (by decide) ?_
  refine ko_iadd dL_law_681 ?_
  rw [show nI i + 2 = nI (i + 2) from nI_add i 2]
  refine ko_rald dL_law_682 hb (vp_in_nI (show i + 2 < L by omega) (by omega)) ?_
  rw [nI_clamp (by omega)]
  refine ko_aload_n (i := 0) dL_law_683 rfl rfl ?_
  refine ko_iload_n (i := 3) dL_law_684 rfl rfl ?_
  refine ko_iconst (v := 3) dL_law_685 (by decide) ?_
  refine ko_iadd dL_law_686 ?_
  rw [show nI i + 3 = nI (i + 3) from nI_add i 3]
  refine ko_rald dL_law_687 hb (vp_in_nI (show i + 3 < L by omega) (by omega)) ?_
  rw [nI_clamp (by omega)]
  refine ko_aload_n (i := 0) dL_law_688 rfl rfl ?_
  refine ko_iload_n (i := 3) dL_law_689 rfl rfl ?_
  refine ko_iconst (v := 4) dL_law_690 (by decide) ?_
  refine ko_iadd dL_law_691 ?_
  rw [show nI i + 4 = nI (i + 4) from nI_add i 4]
  refine ko_rald dL_law_692 hb (vp_in_nI (show i + 4 < L by omega) (by omega)) ?_
  rw [nI_clamp (by omega)]
  refine ko_callVr lk_L_102 dL_law_693 f2 rfl rfl (e1.trans hm0) rfl rfl (by omega) (by omega) (by omega) (Nat.le_of_ble_eq_true rfl) ?_
  refine ko_icmp_eq (tgt := 873) dL_law_696 (by decide) (fun c_696 => ?_) (fun c_696 => ?_)
  · exact K
  · exact absurd rfl c_696
set_option maxRecDepth 20000 in
theorem lw_c21 {G : kx_G} {N x m b L i : Nat} {xs : Nat → Int32} {g : kx_H} (hb : G.2 b = some (L, xs)) (hL : L ≤ 320) (hi : i + 5 ≤ L) (hm9 : x + 121 < m)  (hJ : kJ g x m) : ∃ g2, kJ g2 x m ∧ ∀ res, kx_Ok mL_law 30 133 2013 G 133 2013 873 [(0, .ref b), (1, .ref x), (2, .ref m), (3, .int (nI i))] [] N g2 res → kx_Ok mL_law 30 133 2013 G 133 2013 701 [(0, .ref b), (1, .ref x), (2, .ref m), (3, .int (nI i))] [] N g res := by
  obtain ⟨sd0, hx0⟩ := kJ_x hJ
  obtain ⟨o0, hm0⟩ := kJ_m hJ
  obtain ⟨r9, g1, g2, f1, f2, J2, lo2, e1⟩ := (show kB mX4_chance mX5_chance G 29 N x m g [.int (xs (i + 1)), .int (kb (!decide (xs (i + 2) = 0)))] from j_chance hm9 (by omega) hJ)
  refine ⟨g2, J2, fun res K => ?_⟩
  refine ko_aload_n (i := 1) dL_law_701 rfl rfl ?_
  refine ko_aload_n (i := 0) dL_law_702 rfl rfl ?_
  refine ko_iload_n (i := 3) dL_law_703 rfl rfl ?_
  refine ko_iconst (v := 1) dL_law_704 (by decide) ?_
  refine ko_iadd dL_law_705 ?_
  rw [show nI i + 1 = nI (i + 1) from nI_add i 1]
  refine ko_rald dL_law_706 hb (vp_in_nI (show i + 1 < L by omega) (by omega)) ?_
  rw [nI_clamp (by omega)]
  refine ko_aload_n (i := 0) dL_law_707 rfl rfl ?_
  refine ko_iload_n (i := 3) dL_law_708 rfl rfl ?_
  refine ko_iconst (v := 2) dL_law_709 (by decide) ?_
  refine ko_iadd dL_law_710 ?_
  rw [show nI i + 2 = nI (i + 2) from nI_add i 2]
  refine ko_rald dL_law_711 hb (vp_in_nI (show i + 2 < L by omega) (by omega)) ?_
  rw [nI_clamp (by omega)]
  refine ko_if_eq (tgt := 719) dL_law_712 (by decide) (fun c_712 => ?_) (fun c_712 => ?_)
  · refine ko_iconst (v := 0) dL_law_719 (by decide) ?_
    refine ko_st (st' := [.int (kb (!decide (xs (i + 2) = 0))), .int (xs (i + 1)), .ref x]) (by first | (simp [kb, c_712]; done)) ?_
    refine ko_callVr lk_L_103 dL_law_720 f1 rfl rfl hx0 rfl rfl (by omega) (by omega) (by omega) (Nat.le_of_ble_eq_true rfl) ?_
    refine ko_aload_n (i := 2) dL_law_723 rfl rfl ?_
    refine ko_aload_n (i := 0) dL_law_724 rfl rfl ?_
    refine ko_iload_n (i := 3) dL_law_725 rfl rfl ?_
    refine ko_iconst (v := 1) dL_law_726 (by decide) ?_
    refine ko_iadd dL_law_727 ?_
    rw [show nI i + 1 = nI (i + 1) from nI_add i 1]
    refine ko_rald dL_law_728 hb (vp_in_nI (show i + 1 < L by omega) (by omega)) ?_
    rw [nI_clamp (by omega)]
    refine ko_aload_n (i := 0) dL_law_729 rfl rfl ?_
    refine ko_iload_n (i := 3) dL_law_730 rfl rfl ?_
    refine ko_iconst (v := 2) dL_law_731 (by decide) ?_
    refine ko_iadd dL_law_732 ?_
    rw [show nI i + 2 = nI (i + 2) from nI_add i 2]
    refine ko_rald dL_law_733 hb (vp_in_nI (show i + 2 < L by omega) (by omega)) ?_
    rw [nI_clamp (by omega)]
    refine ko_if_eq (tgt := 741) dL_law_734 (by decide) (fun c_734 => ?_) (fun c_734 => ?_)
    · refine ko_iconst (v := 0) dL_law_741 (by decide) ?_
      refine ko_st (st' := [.int (kb (!decide (xs (i + 2) = 0))), .int (xs (i + 1)), .ref m, .int r9]) (by first | (simp [kb, c_712, c_734]; done) | exact absurd c_712 c_734 | exact absurd c_734 c_712) ?_
      refine ko_callVr lk_L_106 dL_law_742 f2 rfl rfl (e1.trans hm0) rfl rfl (by omega) (by omega) (by omega) (Nat.le_of_ble_eq_true rfl) ?_
      refine ko_icmp_eq (tgt := 873) dL_law_745 (by decide) (fun c_745 => ?_) (fun c_745 => ?_)
      · exact K
      · exact absurd rfl c_745
    · refine ko_iconst (v := 1) dL_law_737 (by decide) ?_
      refine ko_goto (tgt := 742) dL_law_738 (by decide) ?_
      refine ko_st (st' := [.int (kb (!decide (xs (i + 2) = 0))), .int (xs (i + 1)), .ref m, .int r9]) (by first | (simp [kb, c_712, c_734]; done) | exact absurd c_712 c_734 | exact absurd c_734 c_712) ?_
      refine ko_callVr lk_L_106 dL_law_742 f2 rfl rfl (e1.trans hm0) rfl rfl (by omega) (by omega) (by omega) (Nat.le_of_ble_eq_true rfl) ?_
      refine ko_icmp_eq (tgt := 873) dL_law_745 (by decide) (fun c_745 => ?_) (fun c_745 => ?_)
      · exact K
      · exact absurd rfl c_745
  · refine ko_iconst (v := 1) dL_law_715 (by decide) ?_
    refine ko_goto (tgt := 720) dL_law_716 (by decide) ?_
    refine ko_st (st' := [.int (kb (!decide (xs (i + 2) = 0))), .int (xs (i + 1)), .ref x]) (by first | (simp [kb, c_712]; done)) ?_
    refine ko_callVr lk_L_103 dL_law_720 f1 rfl rfl hx0 rfl rfl (by omega) (by omega) (by omega) (Nat.le_of_ble_eq_true rfl) ?_
    refine ko_aload_n (i := 2) dL_law_723 rfl rfl ?_
    refine ko_aload_n (i := 0) dL_law_724 rfl rfl ?_
    refine ko_iload_n (i := 3) dL_law_725 rfl rfl ?_
    refine ko_iconst (v := 1) dL_law_726 (by decide) ?_
    refine ko_iadd dL_law_727 ?_
    rw [show nI i + 1 = nI (i + 1) from nI_add i 1]
    refine ko_rald dL_law_728 hb (vp_in_nI (show i + 1 < L by omega) (by omega)) ?_
    rw [nI_clamp (by omega)]
    refine ko_aload_n (i := 0) dL_law_729 rfl rfl ?_
    refine ko_iload_n (i := 3) dL_law_730 rfl rfl ?_
    refine ko_iconst (v := 2) dL_law_731 (by decide) ?_
    refine ko_iadd dL_law_732 ?_
    rw [show nI i + 2 = nI (i + 2) from nI_add i 2]
    refine ko_rald dL_law_733 hb (vp_in_nI (show i + 2 < L by omega) (by omega)) ?_
    rw [nI_clamp (by omega)]
    refine ko_if_eq (tgt := 741) dL_law_734 (by decide) (fun c_734 => ?_) (fun c_734 => ?_)
    · refine ko_iconst (v := 0) dL_law_741 (by decide) ?_
      refine ko_st (st' := [.int (kb (!decide (xs (i + 2) = 0))), .int (xs (i + 1)), .ref m, .int r9]) (by first | (simp [kb, c_712, c_734]; done) | exact absurd c_712 c_734 | exact absurd c_734 c_712) ?_
      refine ko_callVr lk_L_106 dL_law_742 f2 rfl rfl (e1.trans hm0) rfl rfl (by omega) (by omega) (by omega) (Nat.le_of_ble_eq_true rfl) ?_
      refine ko_icmp_eq (tgt := 873) dL_law_745 (by decide) (fun c_745 => ?_) (fun c_745 => ?_)
      · exact K
      · exact absurd rfl c_745
    · refine ko_iconst (v := 1) dL_law_737 (by decide) ?_
      refine ko_goto (tgt := 742) dL_law_738 (by decide) ?_
      refine ko_st (st' := [.int (kb (!decide (xs (i + 2) = 0))), .int (xs (i + 1)), .ref m, .int r9]) (by first | (simp [kb, c_712, c_734]; done) | exact absurd c_712 c_734 | exact absurd c_734 c_712) ?_
      refine ko_callVr lk_L_106 dL_law_742 f2 rfl rfl (e1.trans hm0) rfl rfl (by omega) (by omega) (by omega) (Nat.le_of_ble_eq_true rfl) ?_
      refine ko_icmp_eq (tgt := 873) dL_law_745 (by decide) (fun c_745 => ?_) (fun c_745 => ?_)
      · exact K
      · exact absurd rfl c_745
set_option maxRecDepth 20000 in
theorem lw_c22 {G : kx_G} {N x m b L i : Nat} {xs : Nat → Int32} {g : kx_H} (hb : G.2 b = some (L, xs)) (hL : L ≤ 320) (hi : i + 5 ≤ L) (hm9 : x + 121 < m)  (hJ : kJ g x m) : ∃ g2, kJ g2 x m ∧ ∀ res, kx_Ok mL_law 30 133 2013 G 133 2013 873 [(0, .ref b), (1, .ref x), (2, .ref m), (3, .int (nI i))] [] N g2 res → kx_Ok mL_law 30 133 2013 G 133 2013 750 [(0, .ref b), (1, .ref x), (2, .ref m), (3, .int (nI i))] [] N g res := by
  obtain ⟨sd0, hx0⟩ := kJ_x hJ
  obtain ⟨o0, hm0⟩ := kJ_m hJ
  obtain ⟨r9, g1, g2, f1, f2, J2, lo2, e1⟩ := j_seed (G := G) (N := N) (d := 29) (v := ((xs (i + 1)).toInt64 <<< ((32 : Int32).toInt64 &&& 63) ||| (xs (i + 2)).toInt64 &&& 4294967295)) hm9 (by omega) hJ
  refine ⟨g2, J2, fun res K => ?_⟩
  refine ko_aload_n (i := 1) dL_law_750 rfl rfl ?_
  refine ko_aload_n (i := 0) dL_law_751 rfl rfl ?_
  refine ko_iload_n (i := 3) dL_law_752 rfl rfl ?_
  refine ko_iconst (v := 1) dL_law_753 (by decide) ?_
  refine ko_iadd dL_law_754 ?_
  rw [show nI i + 1 = nI (i + 1) from nI_add i 1]
  refine ko_rald dL_law_755 hb (vp_in_nI (show i + 1 < L by omega) (by omega)) ?_
  rw [nI_clamp (by omega)]
  refine ko_i2l dL_law_756 ?_
  refine ko_bipush (v := 32) dL_law_757 (by decide) ?_
  refine ko_lshl dL_law_759 ?_
  refine ko_aload_n (i := 0) dL_law_760 rfl rfl ?_
  refine ko_iload_n (i := 3) dL_law_761 rfl rfl ?_
  refine ko_iconst (v := 2) dL_law_762 (by decide) ?_
  refine ko_iadd dL_law_763 ?_
  rw [show nI i + 2 = nI (i + 2) from nI_add i 2]
  refine ko_rald dL_law_764 hb (vp_in_nI (show i + 2 < L by omega) (by omega)) ?_
  rw [nI_clamp (by omega)]
  refine ko_i2l dL_law_765 ?_
  refine ko_ldc2 dL_law_766 fc_L_107 ?_
  refine ko_land dL_law_769 ?_
  refine ko_lor dL_law_770 ?_
  refine ko_callVr lk_L_109 dL_law_771 f1 rfl rfl hx0 rfl rfl (by omega) (by omega) (by omega) (Nat.le_of_ble_eq_true rfl) ?_
  refine ko_aload_n (i := 2) dL_law_774 rfl rfl ?_
  refine ko_aload_n (i := 0) dL_law_775 rfl rfl ?_
  refine ko_iload_n (i := 3) dL_law_776 rfl rfl ?_
  refine ko_iconst (v := 1) dL_law_777 (by decide) ?_
  refine ko_iadd dL_law_778 ?_
  rw [show nI i + 1 = nI (i + 1) from nI_add i 1]
  refine ko_rald dL_law_779 hb (vp_in_nI (show i + 1 < L by omega) (by omega)) ?_
  rw [nI_clamp (by omega)]
  refine ko_i2l dL_law_780 ?_
  refine ko_bipush (v := 32) dL_law_781 (by decide) ?_
  refine ko_lshl dL_law_783 ?_
  refine ko_aload_n (i := 0) dL_law_784 rfl rfl ?_
  refine ko_iload_n (i := 3) dL_law_785 rfl rfl ?_
  refine ko_iconst (v := 2) dL_law_786 (by decide) ?_
  refine ko_iadd dL_law_787 ?_
  rw [show nI i + 2 = nI (i + 2) from nI_add i 2]
  refine ko_rald dL_law_788 hb (vp_in_nI (show i + 2 < L by omega) (by omega)) ?_
  rw [nI_clamp (by omega)]
  refine ko_i2l dL_law_789 ?_
  refine ko_ldc2 dL_law_790 fc_L_107 ?_
  refine ko_land dL_law_793 ?_
  refine ko_lor dL_law_794 ?_
  refine ko_callVr lk_L_113 dL_law_795 f2 rfl rfl (e1.trans hm0) rfl rfl (by omega) (by omega) (by omega) (Nat.le_of_ble_eq_true rfl) ?_
  refine ko_lcmp dL_law_798 ?_
  refine ko_if_eq (tgt := 873) dL_law_799 (by decide) (fun c_799 => ?_) (fun c_799 => ?_)
  · exact K
  · exact absurd ((lg_cmp_eq _ _).mpr rfl) c_799
set_option maxRecDepth 20000 in
theorem lw_c23 {G : kx_G} {N x m b L i : Nat} {xs : Nat → Int32} {g : kx_H} (hb : G.2 b = some (L, xs)) (hL : L ≤ 320) (hi : i + 5 ≤ L) (hm9 : x + 121 < m)  (hJ : kJ g x m) : ∃ g2, kJ g2 x m ∧ ∀ res, kx_Ok mL_law 30 133 2013 G 133 2013 873 [(0, .ref b), (1, .ref x), (2, .ref m), (3, .int (nI i))] [] N g2 res → kx_Ok mL_law 30 133 2013 G 133 2013 804 [(0, .ref b), (1, .ref x), (2, .ref m), (3, .int (nI i))] [] N g res := by
  obtain ⟨sd0, hx0⟩ := kJ_x hJ
  obtain ⟨o0, hm0⟩ := kJ_m hJ
  obtain ⟨r9, g1, g2, f1, f2, J2, lo2, e1⟩ := (show kB mX4_years mX5_years G 29 N x m g [.int (xs (i + 1))] from j_years hm9 (by omega) hJ)
  refine ⟨g2, J2, fun res K => ?_⟩
  refine ko_aload_n (i := 1) dL_law_804 rfl rfl ?_
  refine ko_aload_n (i := 0) dL_law_805 rfl rfl ?_
  refine ko_iload_n (i := 3) dL_law_806 rfl rfl ?_
  refine ko_iconst (v := 1) dL_law_807 (by decide) ?_
  refine ko_iadd dL_law_808 ?_
  rw [show nI i + 1 = nI (i + 1) from nI_add i 1]
  refine ko_rald dL_law_809 hb (vp_in_nI (show i + 1 < L by omega) (by omega)) ?_
  rw [nI_clamp (by omega)]
  refine ko_callVr lk_L_114 dL_law_810 f1 rfl rfl hx0 rfl rfl (by omega) (by omega) (by omega) (Nat.le_of_ble_eq_true rfl) ?_
  refine ko_aload_n (i := 2) dL_law_813 rfl rfl ?_
  refine ko_aload_n (i := 0) dL_law_814 rfl rfl ?_
  refine ko_iload_n (i := 3) dL_law_815 rfl rfl ?_
  refine ko_iconst (v := 1) dL_law_816 (by decide) ?_
  refine ko_iadd dL_law_817 ?_
  rw [show nI i + 1 = nI (i + 1) from nI_add i 1]
  refine ko_rald dL_law_818 hb (vp_in_nI (show i + 1 < L by omega) (by omega)) ?_
  rw [nI_clamp (by omega)]
  refine ko_callVr lk_L_117 dL_law_819 f2 rfl rfl (e1.trans hm0) rfl rfl (by omega) (by omega) (by omega) (Nat.le_of_ble_eq_true rfl) ?_
  refine ko_icmp_eq (tgt := 873) dL_law_822 (by decide) (fun c_822 => ?_) (fun c_822 => ?_)
  · exact K
  · exact absurd rfl c_822
set_option maxRecDepth 20000 in
theorem lw_c24 {G : kx_G} {N x m b L i : Nat} {xs : Nat → Int32} {g : kx_H} (hb : G.2 b = some (L, xs)) (hL : L ≤ 320) (hi : i + 5 ≤ L) (hm9 : x + 121 < m)  (hJ : kJ g x m) : ∃ g2, kJ g2 x m ∧ ∀ res, kx_Ok mL_law 30 133 2013 G 133 2013 873 [(0, .ref b), (1, .ref x), (2, .ref m), (3, .int (nI i))] [] N g2 res → kx_Ok mL_law 30 133 2013 G 133 2013 827 [(0, .ref b), (1, .ref x), (2, .ref m), (3, .int (nI i))] [] N g res := by
  obtain ⟨sd0, hx0⟩ := kJ_x hJ
  obtain ⟨o0, hm0⟩ := kJ_m hJ
  obtain ⟨r9, g1, g2, f1, f2, J2, lo2, e1⟩ := (show kB mX4_keep mX5_keep G 29 N x m g [.int (xs (i + 1))] from j_keep hm9 (by omega) hJ)
  refine ⟨g2, J2, fun res K => ?_⟩
  refine ko_aload_n (i := 1) dL_law_827 rfl rfl ?_
  refine ko_aload_n (i := 0) dL_law_828 rfl rfl ?_
  refine ko_iload_n (i := 3) dL_law_829 rfl rfl ?_
  refine ko_iconst (v := 1) dL_law_830 (by decide) ?_
  refine ko_iadd dL_law_831 ?_
  rw [show nI i + 1 = nI (i + 1) from nI_add i 1]
  refine ko_rald dL_law_832 hb (vp_in_nI (show i + 1 < L by omega) (by omega)) ?_
  rw [nI_clamp (by omega)]
  refine ko_callVr lk_L_118 dL_law_833 f1 rfl rfl hx0 rfl rfl (by omega) (by omega) (by omega) (Nat.le_of_ble_eq_true rfl) ?_
  refine ko_aload_n (i := 2) dL_law_836 rfl rfl ?_
  refine ko_aload_n (i := 0) dL_law_837 rfl rfl ?_
  refine ko_iload_n (i := 3) dL_law_838 rfl rfl ?_
  refine ko_iconst (v := 1) dL_law_839 (by decide) ?_
  refine ko_iadd dL_law_840 ?_
  rw [show nI i + 1 = nI (i + 1) from nI_add i 1]
  refine ko_rald dL_law_841 hb (vp_in_nI (show i + 1 < L by omega) (by omega)) ?_
  rw [nI_clamp (by omega)]
  refine ko_callVr lk_L_121 dL_law_842 f2 rfl rfl (e1.trans hm0) rfl rfl (by omega) (by omega) (by omega) (Nat.le_of_ble_eq_true rfl) ?_
  refine ko_icmp_eq (tgt := 873) dL_law_845 (by decide) (fun c_845 => ?_) (fun c_845 => ?_)
  · exact K
  · exact absurd rfl c_845
set_option maxRecDepth 20000 in
theorem lw_c25 {G : kx_G} {N x m b L i : Nat} {xs : Nat → Int32} {g : kx_H} (hb : G.2 b = some (L, xs)) (hL : L ≤ 320) (hi : i + 5 ≤ L) (hm9 : x + 121 < m)  (hJ : kJ g x m) : ∃ g2, kJ g2 x m ∧ ∀ res, kx_Ok mL_law 30 133 2013 G 133 2013 873 [(0, .ref b), (1, .ref x), (2, .ref m), (3, .int (nI i))] [] N g2 res → kx_Ok mL_law 30 133 2013 G 133 2013 850 [(0, .ref b), (1, .ref x), (2, .ref m), (3, .int (nI i))] [] N g res := by
  obtain ⟨sd0, hx0⟩ := kJ_x hJ
  obtain ⟨o0, hm0⟩ := kJ_m hJ
  obtain ⟨r9, g1, g2, f1, f2, J2, lo2, e1⟩ := (show kB mX4_again mX5_again G 29 N x m g [.int (xs (i + 1))] from j_again hm9 (by omega) hJ)
  refine ⟨g2, J2, fun res K => ?_⟩
  refine ko_aload_n (i := 1) dL_law_850 rfl rfl ?_
  refine ko_aload_n (i := 0) dL_law_851 rfl rfl ?_
  refine ko_iload_n (i := 3) dL_law_852 rfl rfl ?_
  refine ko_iconst (v := 1) dL_law_853 (by decide) ?_
  refine ko_iadd dL_law_854 ?_
  rw [show nI i + 1 = nI (i + 1) from nI_add i 1]
  refine ko_rald dL_law_855 hb (vp_in_nI (show i + 1 < L by omega) (by omega)) ?_
  rw [nI_clamp (by omega)]
  refine ko_callVr lk_L_122 dL_law_856 f1 rfl rfl hx0 rfl rfl (by omega) (by omega) (by omega) (Nat.le_of_ble_eq_true rfl) ?_
  refine ko_aload_n (i := 2) dL_law_859 rfl rfl ?_
  refine ko_aload_n (i := 0) dL_law_860 rfl rfl ?_
  refine ko_iload_n (i := 3) dL_law_861 rfl rfl ?_
  refine ko_iconst (v := 1) dL_law_862 (by decide) ?_
  refine ko_iadd dL_law_863 ?_
  rw [show nI i + 1 = nI (i + 1) from nI_add i 1]
  refine ko_rald dL_law_864 hb (vp_in_nI (show i + 1 < L by omega) (by omega)) ?_
  rw [nI_clamp (by omega)]
  refine ko_callVr lk_L_125 dL_law_865 f2 rfl rfl (e1.trans hm0) rfl rfl (by omega) (by omega) (by omega) (Nat.le_of_ble_eq_true rfl) ?_
  refine ko_icmp_eq (tgt := 873) dL_law_868 (by decide) (fun c_868 => ?_) (fun c_868 => ?_)
  · exact K
  · exact absurd rfl c_868
set_option maxRecDepth 20000 in
theorem lw_step {G : kx_G} {N x m b L i : Nat} {xs : Nat → Int32} {g : kx_H} (hb : G.2 b = some (L, xs)) (hL : L ≤ 320) (hi : i + 5 ≤ L) (hm9 : x + 121 < m) (hG : G.2 G.1 = some (6, fcF)) (hJ : kJ g x m) : ∃ g2, kJ g2 x m ∧ ∀ res, kx_Ok mL_law 30 133 2013 G 133 2013 18 [(0, .ref b), (1, .ref x), (2, .ref m), (3, .int (nI (i + 5)))] [] N g2 res → kx_Ok mL_law 30 133 2013 G 133 2013 18 [(0, .ref b), (1, .ref x), (2, .ref m), (3, .int (nI i))] [] N g res := by
  obtain ⟨w9, hw9⟩ : ∃ w9, xs i &&& 31 = w9 := ⟨_, rfl⟩
  rcases tsw w9 25 (by omega) with ho | ⟨k9, hk9, rfl⟩
  · refine ⟨g, hJ, fun res K => lw_18 hb hL hi ?_⟩
    rw [hw9]
    refine ko_tableOut (tgt := 873) dL_law_32 ho (by decide) ?_
    exact lw_873 K
  · rcases (show k9 = 0 ∨ k9 = 1 ∨ k9 = 2 ∨ k9 = 3 ∨ k9 = 4 ∨ k9 = 5 ∨ k9 = 6 ∨ k9 = 7 ∨ k9 = 8 ∨ k9 = 9 ∨ k9 = 10 ∨ k9 = 11 ∨ k9 = 12 ∨ k9 = 13 ∨ k9 = 14 ∨ k9 = 15 ∨ k9 = 16 ∨ k9 = 17 ∨ k9 = 18 ∨ k9 = 19 ∨ k9 = 20 ∨ k9 = 21 ∨ k9 = 22 ∨ k9 = 23 ∨ k9 = 24 ∨ k9 = 25 by omega) with rfl | rfl | rfl | rfl | rfl | rfl | rfl | rfl | rfl | rfl | rfl | rfl | rfl | rfl | rfl | rfl | rfl | rfl | rfl | rfl | rfl | rfl | rfl | rfl | rfl | rfl
    · obtain ⟨g2, J2, h2⟩ := lw_c0 hb hL hi hm9 hJ
      refine ⟨g2, J2, fun res K => lw_18 hb hL hi ?_⟩
      rw [hw9]
      refine ko_tableIn (off := 120) (tgt := 152) dL_law_32 (by decide) (by decide) rfl (by decide) ?_
      exact h2 res (lw_873 K)
    · obtain ⟨g2, J2, h2⟩ := lw_c1 hb hL hi hm9 hJ
      refine ⟨g2, J2, fun res K => lw_18 hb hL hi ?_⟩
      rw [hw9]
      refine ko_tableIn (off := 143) (tgt := 175) dL_law_32 (by decide) (by decide) rfl (by decide) ?_
      exact h2 res (lw_873 K)
    · obtain ⟨g2, J2, h2⟩ := lw_c2 hb hL hi hm9 hJ
      refine ⟨g2, J2, fun res K => lw_18 hb hL hi ?_⟩
      rw [hw9]
      refine ko_tableIn (off := 156) (tgt := 188) dL_law_32 (by decide) (by decide) rfl (by decide) ?_
      exact h2 res (lw_873 K)
    · obtain ⟨g2, J2, h2⟩ := lw_c3 hb hL hi hm9 hJ
      refine ⟨g2, J2, fun res K => lw_18 hb hL hi ?_⟩
      rw [hw9]
      refine ko_tableIn (off := 169) (tgt := 201) dL_law_32 (by decide) (by decide) rfl (by decide) ?_
      exact h2 res (lw_873 K)
    · obtain ⟨g2, J2, h2⟩ := lw_c4 hb hL hi hm9 hJ
      refine ⟨g2, J2, fun res K => lw_18 hb hL hi ?_⟩
      rw [hw9]
      refine ko_tableIn (off := 182) (tgt := 214) dL_law_32 (by decide) (by decide) rfl (by decide) ?_
      exact h2 res (lw_873 K)
    · obtain ⟨g2, J2, h2⟩ := lw_c5 hb hL hi hm9 hJ
      refine ⟨g2, J2, fun res K => lw_18 hb hL hi ?_⟩
      rw [hw9]
      refine ko_tableIn (off := 205) (tgt := 237) dL_law_32 (by decide) (by decide) rfl (by decide) ?_
      exact h2 res (lw_873 K)
    · obtain ⟨g2, J2, h2⟩ := lw_c6 hb hL hi hm9 hJ
      refine ⟨g2, J2, fun res K => lw_18 hb hL hi ?_⟩
      rw [hw9]
      refine ko_tableIn (off := 238) (tgt := 270) dL_law_32 (by decide) (by decide) rfl (by decide) ?_
      exact h2 res (lw_873 K)
    · obtain ⟨g2, J2, h2⟩ := lw_c7 hb hL hi hm9 hJ
      refine ⟨g2, J2, fun res K => lw_18 hb hL hi ?_⟩
      rw [hw9]
      refine ko_tableIn (off := 271) (tgt := 303) dL_law_32 (by decide) (by decide) rfl (by decide) ?_
      exact h2 res (lw_873 K)
    · obtain ⟨g2, J2, h2⟩ := lw_c8 hb hL hi hm9 hJ
      refine ⟨g2, J2, fun res K => lw_18 hb hL hi ?_⟩
      rw [hw9]
      refine ko_tableIn (off := 294) (tgt := 326) dL_law_32 (by decide) (by decide) rfl (by decide) ?_
      exact h2 res (lw_873 K)
    · obtain ⟨g2, J2, h2⟩ := lw_c9 hb hL hi hm9 hJ
      refine ⟨g2, J2, fun res K => lw_18 hb hL hi ?_⟩
      rw [hw9]
      refine ko_tableIn (off := 327) (tgt := 359) dL_law_32 (by decide) (by decide) rfl (by decide) ?_
      exact h2 res (lw_873 K)
    · obtain ⟨g2, J2, h2⟩ := lw_c10 hb hL hi hm9 hJ
      refine ⟨g2, J2, fun res K => lw_18 hb hL hi ?_⟩
      rw [hw9]
      refine ko_tableIn (off := 360) (tgt := 392) dL_law_32 (by decide) (by decide) rfl (by decide) ?_
      exact h2 res (lw_873 K)
    · obtain ⟨g2, J2, h2⟩ := lw_c11 hb hL hi hm9 hJ
      refine ⟨g2, J2, fun res K => lw_18 hb hL hi ?_⟩
      rw [hw9]
      refine ko_tableIn (off := 373) (tgt := 405) dL_law_32 (by decide) (by decide) rfl (by decide) ?_
      exact h2 res (lw_873 K)
    · obtain ⟨g2, J2, h2⟩ := lw_c12 hb hL hi hm9 hJ
      refine ⟨g2, J2, fun res K => lw_18 hb hL hi ?_⟩
      rw [hw9]
      refine ko_tableIn (off := 386) (tgt := 418) dL_law_32 (by decide) (by decide) rfl (by decide) ?_
      exact h2 res (lw_873 K)
    · obtain ⟨g2, J2, h2⟩ := lw_c13 hb hL hi hm9 hJ
      refine ⟨g2, J2, fun res K => lw_18 hb hL hi ?_⟩
      rw [hw9]
      refine ko_tableIn (off := 409) (tgt := 441) dL_law_32 (by decide) (by decide) rfl (by decide) ?_
      exact h2 res (lw_873 K)
    · obtain ⟨g2, J2, h2⟩ := lw_c14 hb hL hi hm9 hJ
      refine ⟨g2, J2, fun res K => lw_18 hb hL hi ?_⟩
      rw [hw9]
      refine ko_tableIn (off := 432) (tgt := 464) dL_law_32 (by decide) (by decide) rfl (by decide) ?_
      exact h2 res (lw_873 K)
    · obtain ⟨g2, J2, h2⟩ := lw_c15 hb hL hi hm9 hJ
      refine ⟨g2, J2, fun res K => lw_18 hb hL hi ?_⟩
      rw [hw9]
      refine ko_tableIn (off := 465) (tgt := 497) dL_law_32 (by decide) (by decide) rfl (by decide) ?_
      exact h2 res (lw_873 K)
    · obtain ⟨g2, J2, h2⟩ := lw_c16 hb hL hi hm9 hJ
      refine ⟨g2, J2, fun res K => lw_18 hb hL hi ?_⟩
      rw [hw9]
      refine ko_tableIn (off := 488) (tgt := 520) dL_law_32 (by decide) (by decide) rfl (by decide) ?_
      exact h2 res (lw_873 K)
    · obtain ⟨g2, J2, h2⟩ := lw_c17 hb hL hi hm9 hG hJ
      refine ⟨g2, J2, fun res K => lw_18 hb hL hi ?_⟩
      rw [hw9]
      refine ko_tableIn (off := 501) (tgt := 533) dL_law_32 (by decide) (by decide) rfl (by decide) ?_
      exact h2 res (lw_873 K)
    · obtain ⟨g2, J2, h2⟩ := lw_c18 hb hL hi hm9 hJ
      refine ⟨g2, J2, fun res K => lw_18 hb hL hi ?_⟩
      rw [hw9]
      refine ko_tableIn (off := 550) (tgt := 582) dL_law_32 (by decide) (by decide) rfl (by decide) ?_
      exact h2 res (lw_873 K)
    · obtain ⟨g2, J2, h2⟩ := lw_c19 hb hL hi hm9 hJ
      refine ⟨g2, J2, fun res K => lw_18 hb hL hi ?_⟩
      rw [hw9]
      refine ko_tableIn (off := 593) (tgt := 625) dL_law_32 (by decide) (by decide) rfl (by decide) ?_
      exact h2 res (lw_873 K)
    · obtain ⟨g2, J2, h2⟩ := lw_c20 hb hL hi hm9 hJ
      refine ⟨g2, J2, fun res K => lw_18 hb hL hi ?_⟩
      rw [hw9]
      refine ko_tableIn (off := 616) (tgt := 648) dL_law_32 (by decide) (by decide) rfl (by decide) ?_
      exact h2 res (lw_873 K)
    · obtain ⟨g2, J2, h2⟩ := lw_c21 hb hL hi hm9 hJ
      refine ⟨g2, J2, fun res K => lw_18 hb hL hi ?_⟩
      rw [hw9]
      refine ko_tableIn (off := 669) (tgt := 701) dL_law_32 (by decide) (by decide) rfl (by decide) ?_
      exact h2 res (lw_873 K)
    · obtain ⟨g2, J2, h2⟩ := lw_c22 hb hL hi hm9 hJ
      refine ⟨g2, J2, fun res K => lw_18 hb hL hi ?_⟩
      rw [hw9]
      refine ko_tableIn (off := 718) (tgt := 750) dL_law_32 (by decide) (by decide) rfl (by decide) ?_
      exact h2 res (lw_873 K)
    · obtain ⟨g2, J2, h2⟩ := lw_c23 hb hL hi hm9 hJ
      refine ⟨g2, J2, fun res K => lw_18 hb hL hi ?_⟩
      rw [hw9]
      refine ko_tableIn (off := 772) (tgt := 804) dL_law_32 (by decide) (by decide) rfl (by decide) ?_
      exact h2 res (lw_873 K)
    · obtain ⟨g2, J2, h2⟩ := lw_c24 hb hL hi hm9 hJ
      refine ⟨g2, J2, fun res K => lw_18 hb hL hi ?_⟩
      rw [hw9]
      refine ko_tableIn (off := 795) (tgt := 827) dL_law_32 (by decide) (by decide) rfl (by decide) ?_
      exact h2 res (lw_873 K)
    · obtain ⟨g2, J2, h2⟩ := lw_c25 hb hL hi hm9 hJ
      refine ⟨g2, J2, fun res K => lw_18 hb hL hi ?_⟩
      rw [hw9]
      refine ko_tableIn (off := 818) (tgt := 850) dL_law_32 (by decide) (by decide) rfl (by decide) ?_
      exact h2 res (lw_873 K)
theorem lw_loop {G : kx_G} {N x m b L : Nat} {xs : Nat → Int32} (hb : G.2 b = some (L, xs)) (hL : L ≤ 320) (hm9 : x + 121 < m) (hG : G.2 G.1 = some (6, fcF)) : ∀ (k i : Nat) (g : kx_H), L ≤ i + 5 * k → i ≤ 400 → kJ g x m → ∃ gF, kx_Ok mL_law 30 133 2013 G 133 2013 18 [(0, .ref b), (1, .ref x), (2, .ref m), (3, .int (nI i))] [] N g (some (.int 1), N, gF) := by
  intro k
  induction k with
  | zero =>
    intro i g h1 h2 hJ
    exact ⟨g, lw_end hb hL (by omega) h2 rfl⟩
  | succ k ih =>
    intro i g h1 h2 hJ
    rcases Nat.lt_or_ge L (i + 5) with h3 | h3
    · exact ⟨g, lw_end hb hL h3 h2 rfl⟩
    · obtain ⟨g2, J2, h4⟩ := lw_step (N := N) hb hL h3 hm9 hG hJ
      obtain ⟨gF, K⟩ := ih (i + 5) g2 (by omega) (by omega) J2
      exact ⟨gF, h4 _ K⟩
