/-! ===== the law from its start ===== -/
set_option maxRecDepth 20000 in
theorem lw_made {G : kx_G} {N b : Nat} {res : kx_R} (K : kx_Ok mL_law 30 133 2013 G 133 2013 18 [(0, .ref b), (1, .ref N), (2, .ref (N + 122)), (3, .int 0)] [] (N + 133) (mH10 (kx_up (iG (kx_up (fun _ => none) N kxb) N) (N + 122) (mE0 (N + 122))) (N + 122)) res) : kx_Ok mL_law 30 133 2013 G 0 0 0 [(0, .ref b)] [] N (fun _ => none) res := by
  refine ko_new (fs := [.null, .null, .null, .null, .null, .null, .null, .long 0]) kc_4 wl_L_7 wn_RX4 wi_RX4 (by decide +kernel) dL_law_0 (Nat.le_of_ble_eq_true rfl) (Nat.le_of_ble_eq_true rfl) ?_
  refine ko_dup dL_law_3 rfl ?_
  refine ko_callIv lk_L_9 rfl dL_law_4 (fn_xInit (d := 29) ku_s (by omega)) rfl rfl (by omega) (by omega) (by omega) (Nat.le_of_ble_eq_true rfl) ?_
  refine ko_astore_n (i := 1) (lv' := [(0, _), (1, _)]) dL_law_7 rfl (by decide) rfl rfl rfl ?_
  refine ko_new (fs := [.int 0, .null, .int 0, .int 0, .int 0, .null, .int 0, .null, .null, .null, .null, .null, .int 0, .null, .null, .long 0, .int 0, .int 0, .int 0, .null, .int 0, .int 0]) kc_5 wl_L_10 wn_RX5 wi_RX5 (by decide +kernel) dL_law_8 (Nat.le_of_ble_eq_true rfl) (Nat.le_of_ble_eq_true rfl) ?_
  refine ko_dup dL_law_11 rfl ?_
  refine ko_callIv lk_L_12 rfl dL_law_12 (fn_mInit (d := 29) ku_s (by omega)) rfl rfl (by omega) (by omega) (by omega) (Nat.le_of_ble_eq_true rfl) ?_
  refine ko_h (h' := mH10 (kx_up (iG (kx_up (fun _ => none) N kxb) N) (N + 122) (mE0 (N + 122))) (N + 122)) rfl ?_
  refine ko_astore_n (i := 2) (lv' := [(0, _), (1, _), (2, _)]) dL_law_15 rfl (by decide) rfl rfl rfl ?_
  refine ko_iconst (v := 0) dL_law_16 (by decide) ?_
  refine ko_istore_n (i := 3) (lv' := [(0, _), (1, _), (2, _), (3, _)]) dL_law_17 rfl (by decide) rfl rfl rfl ?_
  exact ko_cs (N' := N + 133) rfl rfl rfl K
theorem lw_all {G : kx_G} {N b L : Nat} {xs : Nat → Int32} (hb : G.2 b = some (L, xs)) (hL : L ≤ 320) (hG : G.2 G.1 = some (6, fcF)) : ∃ gF, kx_Ok mL_law 30 133 2013 G 0 0 0 [(0, .ref b)] [] N (fun _ => none) (some (.int 1), N + 133, gF) := by
  have hJ : kJ (mH10 (kx_up (iG (kx_up (fun _ => none) N kxb) N) (N + 122) (mE0 (N + 122))) (N + 122)) N (N + 122) := made (kx_up (fun _ => none) N kxb) _ N (N + 122) (by omega) (fun q g1 g2 => ku_n (by omega))
  obtain ⟨gF, K⟩ := lw_loop (N := N + 133) hb hL (show N + 121 < N + 122 by omega) hG 64 0 _ (by omega) (by omega) hJ
  exact ⟨gF, lw_made K⟩
