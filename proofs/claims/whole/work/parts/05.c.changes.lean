/-! ===== the object's methods that change it ===== -/
section KSv
variable {h : kx_H} {x : Nat} {T : Nat → Int32} {L : Nat} {u : PU} {C : Nat} {Ac K : Nat → PU} {kf : Nat → Int32} {sd : Int64}
theorem kS_now (hS : kS h x T L u C Ac K kf sd) (v : PU) : kS (kp_put h (x + 9) v) x T L v C Ac K kf sd := by
  obtain ⟨told, trial, F, B, s, f, hi, r⟩ := hS
  exact ⟨told, trial, F, B, s, f, kSi_now hi v, r⟩
theorem kS_trial (hS : kS h x T L u C Ac K kf sd) (v : PU) : kS (kp_put h (x + 15) v) x T L u C Ac K kf sd := by
  obtain ⟨told, trial, F, B, s, f, hi, r⟩ := hS
  exact ⟨told, v, F, B, s, f, kSi_trial hi v, r⟩
theorem kS_told (hS : kS h x T L u C Ac K kf sd) (v : PU) : kS (kp_put h (x + 3) v) x T L u C Ac K kf sd := by
  obtain ⟨told, trial, F, B, s, f, hi, r⟩ := hS
  exact ⟨v, trial, F, B, s, f, kSi_told hi v, r⟩
theorem kS_seed (hS : kS h x T L u C Ac K kf sd) (z : Int64) : kS (kx_up h x (kxo x z)) x T L u C Ac K kf z := by
  obtain ⟨told, trial, F, B, s, f, hi, r⟩ := hS
  exact ⟨told, trial, F, B, s, f, kSi_seed hi z, r⟩
theorem kS_kf (hS : kS h x T L u C Ac K kf sd) (g : Nat → Int32) : kS (kx_up h (x + 108) (kz g)) x T L u C Ac K g sd := by
  obtain ⟨told, trial, F, B, s, f, hi, r⟩ := hS
  exact ⟨told, trial, F, B, s, f, kSi_kf hi g, r⟩
theorem kS_kept (hS : kS h x T L u C Ac K kf sd) (j : Nat) (hj : j < 2) (v : PU) : kS (kp_put h (x + 109 + 6 * j) v) x T L u C Ac (fun i => if i = j then v else K i) kf sd := by
  obtain ⟨told, trial, F, B, s, f, hi, r⟩ := hS
  exact ⟨told, trial, F, B, s, f, kSi_kept hi j hj v, r⟩
theorem kS_forget (hS : kS h x T L u C Ac K kf sd) : kS (kx_up h (x + 21) (kao (x + 21) 0 0)) x T L u 0 Ac K kf sd := by
  obtain ⟨told, trial, F, B, s, f, hi, hf, hF, hC, hB, hL⟩ := hS
  exact ⟨told, trial, 0, B, s, f, kSi_acts hi (kA_obj hi.2.2.2.2.2.2.1 0 0) (fun q hq => ku_n (by omega)), hf, by omega, by omega, fun i hi => absurd hi (Nat.not_lt_zero i), hL⟩
end KSv
theorem ix14 : True := trivial
section APP
variable {G : kx_G} {d N l L : Nat} {h : kx_H} {T : Nat → Int32} {c : Int32}
theorem fn_append1 (e0 : h l = some (klo l (nI L))) (e1 : h (l + 1) = some (kl_a T)) (hL : L < 48) : kx_Fn mX1_append d 0 0 G [.ref l, .int c] N h (some (.int (kb true)), N, kx_up (kx_up h (l + 1) (kl_a (upd T L c))) l (klo l (nI (L + 1)))) := by
  have e := fn_append (G := G) (d := d) (N := N) (h := h) (l := l) (T := T) (n := nI L) (c := c)
  have hb : apB (nI L) = true := by
    simp only [apB, Bool.and_eq_true, Bool.not_eq_true', decide_eq_false_iff_not, decide_eq_true_eq]
    exact ⟨nI_pos (by omega), show nI L < nI 48 from nI_lt hL (by omega)⟩
  rw [ku_same e1, ku_same e0, hb, apT, if_pos hb, apN, if_pos hb, nI_1, nI_clamp (by omega)] at e
  exact e
theorem fn_append0 (e0 : h l = some (klo l (nI 48))) (e1 : h (l + 1) = some (kl_a T)) : kx_Fn mX1_append d 0 0 G [.ref l, .int c] N h (some (.int (kb false)), N, h) := by
  have e := fn_append (G := G) (d := d) (N := N) (h := h) (l := l) (T := T) (n := nI 48) (c := c)
  have hb : apB (nI 48) = false := by decide
  have hT : apT T (nI 48) c = T := by rw [apT, if_neg (by rw [hb]; decide)]
  have hN : apN (nI 48) = nI 48 := by decide
  rw [hT, hN, ku_same e1, ku_same e0, hb] at e
  exact e
end APP
set_option maxRecDepth 20000 in
theorem x_write1 {G : kx_G} {d N x : Nat} {h : kx_H} {T : Nat → Int32} {L : Nat} {u : PU} {C : Nat} {Ac K : Nat → PU} {kf : Nat → Int32} {sd : Int64} {c : Int32} (hS : kS h x T L u C Ac K kf sd) (hc : ¬ c < 0 ∧ c ≤ 255 ∧ L < 48) (hd : 20 ≤ d) : ∃ g, kx_Fn mX4_write d 0 0 G [.ref x, .int c] N h (some (.int (nI (L + 1))), N, g) ∧ kS g x (upd T L c) (L + 1) u C Ac K kf sd ∧ kFr h g x 121 := by
  obtain ⟨told, trial, F, B, s, f, hi, hf, hF, hC, hB, hL⟩ := id hS
  obtain ⟨s1, s2, s3, s4, s5, s6, s7, s8, s9, s10, s11⟩ := id hi
  have fr : kFr h (kx_up (kx_up h (x + 2) (kl_a (upd T L c))) (x + 1) (klo (x + 1) (nI (L + 1)))) x 121 := (kFr.up (by omega)).tr (kFr.up (by omega))
  refine ⟨(kx_up (kx_up h (x + 2) (kl_a (upd T L c))) (x + 1) (klo (x + 1) (nI (L + 1)))), kx_Fn_of rfl (Nat.le_of_ble_eq_true rfl) rfl ?_ (kS_dom hS fr), ⟨told, trial, F, B, s, f, kSi_text hi _ _, hf, hF, hC, hB, by omega⟩, fr⟩
  · refine ko_iload_n (i := 1) dX4_write_0 rfl rfl ?_
    refine ko_if_lt (tgt := 11) dX4_write_1 (by decide) (fun c_1 => ?_) (fun c_1 => ?_)
    · exact absurd hc (by simp [c_1])
    · refine ko_iload_n (i := 1) dX4_write_4 rfl rfl ?_
      refine ko_sipush (v := 255) dX4_write_5 (by decide) ?_
      refine ko_icmp_le (tgt := 14) dX4_write_8 (by decide) (fun c_8 => ?_) (fun c_8 => ?_)
      · refine ko_aload_n (i := 0) dX4_write_14 rfl rfl ?_
        refine ko_get fl_X4_10 dX4_write_15 s1 rfl ?_
        refine ko_iload_n (i := 1) dX4_write_18 rfl rfl ?_
        refine ko_callVr lk_X4_52 dX4_write_19 (fn_append1 s2 s3 hc.2.2) rfl rfl s2 rfl rfl (by omega) (by omega) (by omega) (Nat.le_of_ble_eq_true rfl) ?_
        first | refine ko_ifb_eq (tgt := 35) dX4_write_22 (by decide) (fun c_22 => ?_) (fun c_22 => ?_) | refine ko_if_eq (tgt := 35) dX4_write_22 (by decide) (fun c_22 => ?_) (fun c_22 => ?_)
        · exact absurd c_22 (by decide)
        · refine ko_aload_n (i := 0) dX4_write_25 rfl rfl ?_
          refine ko_get fl_X4_10 dX4_write_26 ((ku_n (by omega)).trans ((ku_n (by omega)).trans s1)) rfl ?_
          refine ko_get fl_X4_56 dX4_write_29 ku_s rfl ?_
          refine ko_goto (tgt := 37) dX4_write_32 (by decide) ?_
          refine ko_iret dX4_write_37 rfl (Nat.le_of_ble_eq_true rfl) (Nat.le_of_ble_eq_true rfl) ?_
          rfl
      · exact absurd hc (by simp [c_1, c_8])
set_option maxRecDepth 20000 in
theorem x_write0 {G : kx_G} {d N x : Nat} {h : kx_H} {T : Nat → Int32} {L : Nat} {u : PU} {C : Nat} {Ac K : Nat → PU} {kf : Nat → Int32} {sd : Int64} {c : Int32} (hc : c < 0 ∨ ¬ c ≤ 255) (hS : kS h x T L u C Ac K kf sd) (hd : 20 ≤ d) : kx_Fn mX4_write d 0 0 G [.ref x, .int c] N h (some (.int (-2)), N, h) := by
  refine kx_Fn_of rfl (Nat.le_of_ble_eq_true rfl) rfl ?_ (kx_self)
  obtain ⟨told, trial, F, B, s, f, hi, hf, hF, hC, hB, hL⟩ := id hS
  obtain ⟨s1, s2, s3, s4, s5, s6, s7, s8, s9, s10, s11⟩ := id hi
  refine ko_iload_n (i := 1) dX4_write_0 rfl rfl ?_
  refine ko_if_lt (tgt := 11) dX4_write_1 (by decide) (fun c_1 => ?_) (fun c_1 => ?_)
  · refine ko_bipush (v := (-2)) dX4_write_11 (by decide) ?_
    refine ko_iret dX4_write_13 rfl (Nat.le_of_ble_eq_true rfl) (Nat.le_of_ble_eq_true rfl) ?_
    rfl
  · refine ko_iload_n (i := 1) dX4_write_4 rfl rfl ?_
    refine ko_sipush (v := 255) dX4_write_5 (by decide) ?_
    refine ko_icmp_le (tgt := 14) dX4_write_8 (by decide) (fun c_8 => ?_) (fun c_8 => ?_)
    · exact absurd hc (by simp [c_1, c_8])
    · refine ko_bipush (v := (-2)) dX4_write_11 (by decide) ?_
      refine ko_iret dX4_write_13 rfl (Nat.le_of_ble_eq_true rfl) (Nat.le_of_ble_eq_true rfl) ?_
      rfl
set_option maxRecDepth 20000 in
theorem x_write2 {G : kx_G} {d N x : Nat} {h : kx_H} {T : Nat → Int32} {L : Nat} {u : PU} {C : Nat} {Ac K : Nat → PU} {kf : Nat → Int32} {sd : Int64} {c : Int32} (hc : ¬ c < 0 ∧ c ≤ 255) (h48 : L = 48) (hS : kS h x T L u C Ac K kf sd) (hd : 20 ≤ d) : kx_Fn mX4_write d 0 0 G [.ref x, .int c] N h (some (.int (-4)), N, h) := by
  refine kx_Fn_of rfl (Nat.le_of_ble_eq_true rfl) rfl ?_ (kx_self)
  obtain ⟨told, trial, F, B, s, f, hi, hf, hF, hC, hB, hL⟩ := id hS
  obtain ⟨s1, s2, s3, s4, s5, s6, s7, s8, s9, s10, s11⟩ := id hi
  subst h48
  refine ko_iload_n (i := 1) dX4_write_0 rfl rfl ?_
  refine ko_if_lt (tgt := 11) dX4_write_1 (by decide) (fun c_1 => ?_) (fun c_1 => ?_)
  · exact absurd hc (by simp [c_1])
  · refine ko_iload_n (i := 1) dX4_write_4 rfl rfl ?_
    refine ko_sipush (v := 255) dX4_write_5 (by decide) ?_
    refine ko_icmp_le (tgt := 14) dX4_write_8 (by decide) (fun c_8 => ?_) (fun c_8 => ?_)
    · refine ko_aload_n (i := 0) dX4_write_14 rfl rfl ?_
      refine ko_get fl_X4_10 dX4_write_15 s1 rfl ?_
      refine ko_iload_n (i := 1) dX4_write_18 rfl rfl ?_
      refine ko_callVr lk_X4_52 dX4_write_19 (fn_append0 s2 s3) rfl rfl s2 rfl rfl (by omega) (by omega) (by omega) (Nat.le_of_ble_eq_true rfl) ?_
      first | refine ko_ifb_eq (tgt := 35) dX4_write_22 (by decide) (fun c_22 => ?_) (fun c_22 => ?_) | refine ko_if_eq (tgt := 35) dX4_write_22 (by decide) (fun c_22 => ?_) (fun c_22 => ?_)
      · refine ko_bipush (v := (-4)) dX4_write_35 (by decide) ?_
        refine ko_iret dX4_write_37 rfl (Nat.le_of_ble_eq_true rfl) (Nat.le_of_ble_eq_true rfl) ?_
        rfl
      · exact absurd c_22 (by decide)
    · exact absurd hc (by simp [c_1, c_8])
theorem fn_readLandR {G : kx_G} {d N l L : Nat} {h : kx_H} {T : Nat → Int32} {u v : PU} {r : Int32} (e0 : h l = some (klo l (nI L))) (e1 : h (l + 1) = some (kl_a T)) (hP : kP h (l + 2) u) (hL : L ≤ 48) (hd : 4 ≤ d) (hr : rlR T (nI L) = (r, v)) : kx_Fn mX1_readLand d 0 0 G [.ref l] N h (some (.int r), N, kp_put h (l + 2) v) := by
  have e := fn_readLand (G := G) (d := d) (N := N) e0 e1 hP rfl hL hd
  rw [hr] at e
  exact e
theorem nar0 : vp_nar .boolean 0 = 0 := by decide
theorem nar1 : vp_nar .boolean 1 = 1 := by decide
set_option maxRecDepth 20000 in
theorem x_land0 {G : kx_G} {d N x : Nat} {h : kx_H} {T : Nat → Int32} {L : Nat} {u : PU} {C : Nat} {Ac K : Nat → PU} {kf : Nat → Int32} {sd : Int64} {r : Int32} {v : PU} (hr : rlR T (nI L) = (r, v)) (hS : kS h x T L u C Ac K kf sd) (h9 : ¬ r = -9) (hd : 20 ≤ d) : ∃ g, kx_Fn mX4_land d 0 0 G [.ref x] N h (some (.int (-3)), N, g) ∧ kS g x T L u C Ac K kf sd ∧ kFr h g x 121 := by
  obtain ⟨told, trial, F, B, s, f, hi, hf, hF, hC, hB, hL⟩ := id hS
  obtain ⟨s1, s2, s3, s4, s5, s6, s7, s8, s9, s10, s11⟩ := id hi
  have fr : kFr h (kp_put h (x + 3) v) x 121 := kFr.put (by omega)
  refine ⟨(kp_put h (x + 3) v), kx_Fn_of rfl (Nat.le_of_ble_eq_true rfl) rfl ?_ (kS_dom hS fr), kS_told hS v, fr⟩
  · refine ko_aload_n (i := 0) dX4_land_0 rfl rfl ?_
    refine ko_get fl_X4_10 dX4_land_1 s1 rfl ?_
    refine ko_callVr lk_X4_60 dX4_land_4 (fn_readLandR (d := d - 1) s2 s3 s4 hL (by omega) hr) rfl rfl s2 rfl rfl (by omega) (by omega) (by omega) (Nat.le_of_ble_eq_true rfl) ?_
    refine ko_bipush (v := (-9)) dX4_land_7 (by decide) ?_
    refine ko_icmp_eq (tgt := 15) dX4_land_9 (by decide) (fun c_9 => ?_) (fun c_9 => ?_)
    · exact absurd c_9 h9
    · refine ko_bipush (v := (-3)) dX4_land_12 (by decide) ?_
      refine ko_iret dX4_land_14 rfl (Nat.le_of_ble_eq_true rfl) (Nat.le_of_ble_eq_true rfl) ?_
      rfl
set_option maxRecDepth 20000 in
theorem x_land1 {G : kx_G} {d N x : Nat} {h : kx_H} {T : Nat → Int32} {L : Nat} {u : PU} {C : Nat} {Ac K : Nat → PU} {kf : Nat → Int32} {sd : Int64} {v : PU} (hr : rlR T (nI L) = (-9, v)) (hS : kS h x T L u C Ac K kf sd) (hd : 20 ≤ d) : ∃ g, kx_Fn mX4_land d 0 0 G [.ref x] N h (some (.int (pN v)), N, g) ∧ kS g x T L v 0 Ac K (fun _ => 0) sd ∧ kFr h g x 121 := by
  obtain ⟨told, trial, F, B, s, f, hi, hf, hF, hC, hB, hL⟩ := id hS
  obtain ⟨s1, s2, s3, s4, s5, s6, s7, s8, s9, s10, s11⟩ := id hi
  have f4 : kp_put h (x + 3) v x = some (kxo x sd) := by rw [kp_put_out (by omega)]; exact s1
  have f1 : kp_put h (x + 3) v (x + 1) = some (klo (x + 1) (nI L)) := by rw [kp_put_out (by omega)]; exact s2
  have f4b : kp_put (kp_put h (x + 3) v) (x + 9) v x = some (kxo x sd) := by rw [kp_put_out (by omega)]; exact f4
  have f21 : kp_put (kp_put h (x + 3) v) (x + 9) v (x + 21) = some (kao (x + 21) F C) := by rw [kp_put_out (by omega), kp_put_out (by omega)]; exact s7.1
  have f4c : ∀ z, kx_up (kx_up (kp_put (kp_put h (x + 3) v) (x + 9) v) (x + 21) (kao (x + 21) 0 0)) (x + 108) (kz z) x = some (kxo x sd) := fun z => by rw [ku_n (by omega), ku_n (by omega)]; exact f4b
  have f9 : ∀ z, kP (kx_up (kx_up (kp_put (kp_put h (x + 3) v) (x + 9) v) (x + 21) (kao (x + 21) 0 0)) (x + 108) (kz z)) (x + 9) v := fun z => kP_up (kP_up (kp_put_P _ _ _) (by omega)) (by omega)
  have f108 : kx_up (kp_put (kp_put h (x + 3) v) (x + 9) v) (x + 21) (kao (x + 21) 0 0) (x + 108) = some (kz kf) := by rw [ku_n (by omega), kp_put_out (by omega), kp_put_out (by omega)]; exact s9
  have fr : kFr h (kx_up (kx_up (kp_put (kp_put h (x + 3) v) (x + 9) v) (x + 21) (kao (x + 21) 0 0)) (x + 108) (kz (fun _ => 0))) x 121 := (((kFr.put (by omega)).tr (kFr.put (by omega))).tr (kFr.up (by omega))).tr (kFr.up (by omega))
  refine ⟨(kx_up (kx_up (kp_put (kp_put h (x + 3) v) (x + 9) v) (x + 21) (kao (x + 21) 0 0)) (x + 108) (kz (fun _ => 0))), kx_Fn_of rfl (Nat.le_of_ble_eq_true rfl) rfl ?_ (kS_dom hS fr), kS_kf (kS_forget (kS_now (kS_told hS v) v)) _, fr⟩
  · have LOOP : ∀ (k i : Nat), k + i = 2 → kx_Ok mX4_land d 0 0 G 0 0 38 [(0, .ref x), (1, .int (nI i))] [] N (kx_up (kx_up (kp_put (kp_put h (x + 3) v) (x + 9) v) (x + 21) (kao (x + 21) 0 0)) (x + 108) (kz (zf i kf))) (some (.int (pN v)), N, (kx_up (kx_up (kp_put (kp_put h (x + 3) v) (x + 9) v) (x + 21) (kao (x + 21) 0 0)) (x + 108) (kz (fun _ => 0)))) := by
      intro k
      induction k with
      | zero =>
        intro i hi
        obtain rfl : i = 2 := by omega
        refine ko_iload_n (i := 1) dX4_land_38 rfl rfl ?_
        refine ko_iconst (v := 2) dX4_land_39 (by decide) ?_
        refine ko_icmp_ge (tgt := 56) dX4_land_40 (by decide) (fun c_40 => ?_) (fun c_40 => ?_)
        · refine ko_arr (k := 1) (L := 2) (fun _ => 0) ku_s (fun j hj => if_pos hj) ?_
          refine ko_h (ku_ku _ _ _ _) ?_
          refine ko_aload_n (i := 0) dX4_land_56 rfl rfl ?_
          refine ko_get fl_X4_19 dX4_land_57 (f4c _) rfl ?_
          refine ko_get fl_X4_74 dX4_land_60 (f9 _).1 rfl ?_
          refine ko_iret dX4_land_63 rfl (Nat.le_of_ble_eq_true rfl) (Nat.le_of_ble_eq_true rfl) ?_
          rfl
        · exact absurd (show (2 : Int32) ≤ nI 2 by decide) c_40
      | succ k ih =>
        intro i hi
        refine ko_iload_n (i := 1) dX4_land_38 rfl rfl ?_
        refine ko_iconst (v := 2) dX4_land_39 (by decide) ?_
        refine ko_icmp_ge (tgt := 56) dX4_land_40 (by decide) (fun c_40 => ?_) (fun c_40 => ?_)
        · exact absurd (show nI 2 ≤ nI i from c_40) (nI_ge (by omega) (by omega))
        · refine ko_aload_n (i := 0) dX4_land_43 rfl rfl ?_
          refine ko_get fl_X4_37 dX4_land_44 (f4c _) rfl ?_
          refine ko_iload_n (i := 1) dX4_land_47 rfl rfl ?_
          refine ko_iconst (v := 0) dX4_land_48 (by decide) ?_
          refine ko_zast dX4_land_49 ku_s (vp_in_nI (by omega) (by omega)) ?_
          rw [nI_clamp (by omega), nar0, ku_ku, zf_s]
          refine ko_inc1 (i := 1) (lv' := [(0, _), (1, _)]) dX4_land_50 rfl (by decide) rfl rfl rfl ?_
          refine ko_goto (tgt := 38) dX4_land_53 (by decide) ?_
          exact ko_lv (by simp [nI_succ]) (ih (i + 1) (by omega))
    refine ko_aload_n (i := 0) dX4_land_0 rfl rfl ?_
    refine ko_get fl_X4_10 dX4_land_1 s1 rfl ?_
    refine ko_callVr lk_X4_60 dX4_land_4 (fn_readLandR (d := d - 1) s2 s3 s4 hL (by omega) hr) rfl rfl s2 rfl rfl (by omega) (by omega) (by omega) (Nat.le_of_ble_eq_true rfl) ?_
    refine ko_bipush (v := (-9)) dX4_land_7 (by decide) ?_
    refine ko_icmp_eq (tgt := 15) dX4_land_9 (by decide) (fun c_9 => ?_) (fun c_9 => ?_)
    · refine ko_aload_n (i := 0) dX4_land_15 rfl rfl ?_
      refine ko_get fl_X4_19 dX4_land_16 f4 rfl ?_
      refine ko_aload_n (i := 0) dX4_land_19 rfl rfl ?_
      refine ko_get fl_X4_10 dX4_land_20 f4 rfl ?_
      refine ko_get fl_X4_64 dX4_land_23 f1 rfl ?_
      refine ko_callVv lk_X4_67 dX4_land_26 (fn_copyFrom (d := d - 1) (kp_put_other s5 (by omega)) (kp_put_P _ _ _) (by omega) (by omega)) rfl rfl (kp_put_other s5 (by omega)).1 rfl rfl (by omega) (by omega) (by omega) (Nat.le_of_ble_eq_true rfl) ?_
      refine ko_aload_n (i := 0) dX4_land_29 rfl rfl ?_
      refine ko_get fl_X4_29 dX4_land_30 f4b rfl ?_
      refine ko_callVv lk_X4_71 dX4_land_33 (fn_forgetAll (d := d - 1) f21) rfl rfl f21 rfl rfl (by omega) (by omega) (by omega) (Nat.le_of_ble_eq_true rfl) ?_
      refine ko_iconst (v := 0) dX4_land_36 (by decide) ?_
      refine ko_istore_n (i := 1) (lv' := [(0, _), (1, _)]) dX4_land_37 rfl (by decide) rfl rfl rfl ?_
      exact ko_h (by rw [zf_0]; exact (ku_same f108).symm) (LOOP 2 0 rfl)
    · exact absurd rfl c_9
def fuB (u : PU) (p : Int32) : Bool := hasI (pN u) p && !hbI (pOp u) p
def fuI (u : PU) (p : Int32) : Int32 := if hasI (pN u) p = false then -1 else -3
set_option maxRecDepth 20000 in
theorem x_funeral1 {G : kx_G} {d N x : Nat} {h : kx_H} {T : Nat → Int32} {L : Nat} {u : PU} {C : Nat} {Ac K : Nat → PU} {kf : Nat → Int32} {sd : Int64} {p : Int32} (hS : kS h x T L u C Ac K kf sd) (ok : fuB u p = true) (hd : 20 ≤ d) : ∃ g, kx_Fn mX4_funeral d 0 0 G [.ref x, .int p] N h (some (.int (bcI (pOp (brU u p)))), N, g) ∧ kS g x T L (brU u p) (rmC C) (rmA C Ac u) K kf sd ∧ kFr h g x 121 := by
  obtain ⟨told, trial, F, B, s, f, hi, hf, hF, hC, hB, hL⟩ := id hS
  obtain ⟨s1, s2, s3, s4, s5, s6, s7, s8, s9, s10, s11⟩ := id hi
  obtain ⟨g1, hg1, S1, fr1, gx, gP⟩ := sys_remember (G := G) (N := N) (d := d - 1) hS (by omega)
  have fr : kFr h (kp_put g1 (x + 9) (brU u p)) x 121 := fr1.tr (kFr.put (by omega))
  refine ⟨(kp_put g1 (x + 9) (brU u p)), kx_Fn_of rfl (Nat.le_of_ble_eq_true rfl) rfl ?_ (kS_dom hS fr), kS_now S1 _, fr⟩
  · refine ko_aload_n (i := 0) dX4_funeral_0 rfl rfl ?_
    refine ko_get fl_X4_19 dX4_funeral_1 s1 rfl ?_
    refine ko_iload_n (i := 1) dX4_funeral_4 rfl rfl ?_
    refine ko_callVr lk_X4_90 dX4_funeral_5 (fn_has (d := d - 1) s5) rfl rfl s5.1 rfl rfl (by omega) (by omega) (by omega) (Nat.le_of_ble_eq_true rfl) ?_
    first | refine ko_ifb_ne (tgt := 13) dX4_funeral_8 (by decide) (fun c_8 => ?_) (fun c_8 => ?_) | refine ko_if_ne (tgt := 13) dX4_funeral_8 (by decide) (fun c_8 => ?_) (fun c_8 => ?_)
    · refine ko_aload_n (i := 0) dX4_funeral_13 rfl rfl ?_
      refine ko_get fl_X4_19 dX4_funeral_14 s1 rfl ?_
      refine ko_iload_n (i := 1) dX4_funeral_17 rfl rfl ?_
      refine ko_callVr lk_X4_117 dX4_funeral_18 (fn_isOpen (d := d - 1) s5 (by omega)) rfl rfl s5.1 rfl rfl (by omega) (by omega) (by omega) (Nat.le_of_ble_eq_true rfl) ?_
      first | refine ko_ifb_eq (tgt := 27) dX4_funeral_21 (by decide) (fun c_21 => ?_) (fun c_21 => ?_) | refine ko_if_eq (tgt := 27) dX4_funeral_21 (by decide) (fun c_21 => ?_) (fun c_21 => ?_)
      · refine ko_aload_n (i := 0) dX4_funeral_27 rfl rfl ?_
        refine ko_get fl_X4_29 dX4_funeral_28 s1 rfl ?_
        refine ko_aload_n (i := 0) dX4_funeral_31 rfl rfl ?_
        refine ko_get fl_X4_19 dX4_funeral_32 s1 rfl ?_
        refine ko_callVv lk_X4_120 dX4_funeral_35 hg1 rfl rfl s7.1 rfl rfl (by omega) (by omega) (by omega) (Nat.le_of_ble_eq_true rfl) ?_
        refine ko_aload_n (i := 0) dX4_funeral_38 rfl rfl ?_
        refine ko_get fl_X4_19 dX4_funeral_39 gx rfl ?_
        refine ko_iload_n (i := 1) dX4_funeral_42 rfl rfl ?_
        refine ko_callVv lk_X4_123 dX4_funeral_43 (fn_bereave (d := d - 1) gP (by omega)) rfl rfl gP.1 rfl rfl (by omega) (by omega) (by omega) (Nat.le_of_ble_eq_true rfl) ?_
        refine ko_aload_n (i := 0) dX4_funeral_46 rfl rfl ?_
        refine ko_get fl_X4_19 dX4_funeral_47 ((kp_put_out (by omega)).trans gx) rfl ?_
        refine ko_get fl_X4_77 dX4_funeral_50 (kp_put_P _ _ _).1 rfl ?_
        refine ko_callSr lk_X4_127 dX4_funeral_53 (fn_bitCount (d := d - 1)) rfl rfl (by omega) (by omega) (by omega) (Nat.le_of_ble_eq_true rfl) ?_
        refine ko_iret dX4_funeral_56 rfl (Nat.le_of_ble_eq_true rfl) (Nat.le_of_ble_eq_true rfl) ?_
        rfl
      · exact absurd ok (by simp [fuB, c_8, c_21])
    · exact absurd ok (by simp [fuB, c_8])
set_option maxRecDepth 20000 in
theorem x_funeral0 {G : kx_G} {d N x : Nat} {h : kx_H} {T : Nat → Int32} {L : Nat} {u : PU} {C : Nat} {Ac K : Nat → PU} {kf : Nat → Int32} {sd : Int64} {p : Int32} (ok : fuB u p = false) (hS : kS h x T L u C Ac K kf sd) (hd : 20 ≤ d) : kx_Fn mX4_funeral d 0 0 G [.ref x, .int p] N h (some (.int (fuI u p)), N, h) := by
  refine kx_Fn_of rfl (Nat.le_of_ble_eq_true rfl) rfl ?_ (kx_self)
  obtain ⟨told, trial, F, B, s, f, hi, hf, hF, hC, hB, hL⟩ := id hS
  obtain ⟨s1, s2, s3, s4, s5, s6, s7, s8, s9, s10, s11⟩ := id hi
  refine ko_aload_n (i := 0) dX4_funeral_0 rfl rfl ?_
  refine ko_get fl_X4_19 dX4_funeral_1 s1 rfl ?_
  refine ko_iload_n (i := 1) dX4_funeral_4 rfl rfl ?_
  refine ko_callVr lk_X4_90 dX4_funeral_5 (fn_has (d := d - 1) s5) rfl rfl s5.1 rfl rfl (by omega) (by omega) (by omega) (Nat.le_of_ble_eq_true rfl) ?_
  first | refine ko_ifb_ne (tgt := 13) dX4_funeral_8 (by decide) (fun c_8 => ?_) (fun c_8 => ?_) | refine ko_if_ne (tgt := 13) dX4_funeral_8 (by decide) (fun c_8 => ?_) (fun c_8 => ?_)
  · refine ko_aload_n (i := 0) dX4_funeral_13 rfl rfl ?_
    refine ko_get fl_X4_19 dX4_funeral_14 s1 rfl ?_
    refine ko_iload_n (i := 1) dX4_funeral_17 rfl rfl ?_
    refine ko_callVr lk_X4_117 dX4_funeral_18 (fn_isOpen (d := d - 1) s5 (by omega)) rfl rfl s5.1 rfl rfl (by omega) (by omega) (by omega) (Nat.le_of_ble_eq_true rfl) ?_
    first | refine ko_ifb_eq (tgt := 27) dX4_funeral_21 (by decide) (fun c_21 => ?_) (fun c_21 => ?_) | refine ko_if_eq (tgt := 27) dX4_funeral_21 (by decide) (fun c_21 => ?_) (fun c_21 => ?_)
    · exact absurd ok (by simp [fuB, c_8, c_21])
    · refine ko_bipush (v := (-3)) dX4_funeral_24 (by decide) ?_
      refine ko_iret dX4_funeral_26 rfl (Nat.le_of_ble_eq_true rfl) (Nat.le_of_ble_eq_true rfl) ?_
      simp [fuI, c_8, c_21]
  · refine ko_iconst (v := (-1)) dX4_funeral_11 (by decide) ?_
    refine ko_iret dX4_funeral_12 rfl (Nat.le_of_ble_eq_true rfl) (Nat.le_of_ble_eq_true rfl) ?_
    simp [fuI, c_8]
def weB (u : PU) (p q : Int32) : Bool := hasI (pN u) p && (hasI (pN u) q && mayI u p q)
def weI (u : PU) (p q : Int32) : Int32 := if hasI (pN u) p = false then -1 else if hasI (pN u) q = false then -1 else -3
def onB (u : PU) (p q : Int32) : Bool := hasI (pN u) p && (hasI (pN u) q && onyI u p q)
set_option maxRecDepth 20000 in
theorem x_weep1 {G : kx_G} {d N x : Nat} {h : kx_H} {T : Nat → Int32} {L : Nat} {u : PU} {C : Nat} {Ac K : Nat → PU} {kf : Nat → Int32} {sd : Int64} {p q : Int32} (hS : kS h x T L u C Ac K kf sd) (ok : weB u p q = true) (hd : 20 ≤ d) : ∃ g, kx_Fn mX4_weep d 0 0 G [.ref x, .int p, .int q] N h (some (.int (wfI u p q)), N, g) ∧ kS g x T L (wfU u p q) (rmC C) (rmA C Ac u) K kf sd ∧ kFr h g x 121 := by
  obtain ⟨told, trial, F, B, s, f, hi, hf, hF, hC, hB, hL⟩ := id hS
  obtain ⟨s1, s2, s3, s4, s5, s6, s7, s8, s9, s10, s11⟩ := id hi
  obtain ⟨g1, hg1, S1, fr1, gx, gP⟩ := sys_remember (G := G) (N := N) (d := d - 1) hS (by omega)
  have fr : kFr h (kp_put g1 (x + 9) (wfU u p q)) x 121 := fr1.tr (kFr.put (by omega))
  refine ⟨(kp_put g1 (x + 9) (wfU u p q)), kx_Fn_of rfl (Nat.le_of_ble_eq_true rfl) rfl ?_ (kS_dom hS fr), kS_now S1 _, fr⟩
  · refine ko_aload_n (i := 0) dX4_weep_0 rfl rfl ?_
    refine ko_get fl_X4_19 dX4_weep_1 s1 rfl ?_
    refine ko_iload_n (i := 1) dX4_weep_4 rfl rfl ?_
    refine ko_callVr lk_X4_90 dX4_weep_5 (fn_has (d := d - 1) s5) rfl rfl s5.1 rfl rfl (by omega) (by omega) (by omega) (Nat.le_of_ble_eq_true rfl) ?_
    first | refine ko_ifb_eq (tgt := 22) dX4_weep_8 (by decide) (fun c_8 => ?_) (fun c_8 => ?_) | refine ko_if_eq (tgt := 22) dX4_weep_8 (by decide) (fun c_8 => ?_) (fun c_8 => ?_)
    · exact absurd ok (by simp [weB, c_8])
    · refine ko_aload_n (i := 0) dX4_weep_11 rfl rfl ?_
      refine ko_get fl_X4_19 dX4_weep_12 s1 rfl ?_
      refine ko_iload_n (i := 2) dX4_weep_15 rfl rfl ?_
      refine ko_callVr lk_X4_90 dX4_weep_16 (fn_has (d := d - 1) s5) rfl rfl s5.1 rfl rfl (by omega) (by omega) (by omega) (Nat.le_of_ble_eq_true rfl) ?_
      first | refine ko_ifb_ne (tgt := 24) dX4_weep_19 (by decide) (fun c_19 => ?_) (fun c_19 => ?_) | refine ko_if_ne (tgt := 24) dX4_weep_19 (by decide) (fun c_19 => ?_) (fun c_19 => ?_)
      · refine ko_aload_n (i := 0) dX4_weep_24 rfl rfl ?_
        refine ko_get fl_X4_19 dX4_weep_25 s1 rfl ?_
        refine ko_iload_n (i := 1) dX4_weep_28 rfl rfl ?_
        refine ko_iload_n (i := 2) dX4_weep_29 rfl rfl ?_
        refine ko_callVr lk_X4_132 dX4_weep_30 (fn_mayWeep (d := d - 1) s5 (by omega)) rfl rfl s5.1 rfl rfl (by omega) (by omega) (by omega) (Nat.le_of_ble_eq_true rfl) ?_
        first | refine ko_ifb_ne (tgt := 39) dX4_weep_33 (by decide) (fun c_33 => ?_) (fun c_33 => ?_) | refine ko_if_ne (tgt := 39) dX4_weep_33 (by decide) (fun c_33 => ?_) (fun c_33 => ?_)
        · refine ko_aload_n (i := 0) dX4_weep_39 rfl rfl ?_
          refine ko_get fl_X4_29 dX4_weep_40 s1 rfl ?_
          refine ko_aload_n (i := 0) dX4_weep_43 rfl rfl ?_
          refine ko_get fl_X4_19 dX4_weep_44 s1 rfl ?_
          refine ko_callVv lk_X4_120 dX4_weep_47 hg1 rfl rfl s7.1 rfl rfl (by omega) (by omega) (by omega) (Nat.le_of_ble_eq_true rfl) ?_
          refine ko_aload_n (i := 0) dX4_weep_50 rfl rfl ?_
          refine ko_get fl_X4_19 dX4_weep_51 gx rfl ?_
          refine ko_iload_n (i := 1) dX4_weep_54 rfl rfl ?_
          refine ko_iload_n (i := 2) dX4_weep_55 rfl rfl ?_
          refine ko_callVr lk_X4_136 dX4_weep_56 (fn_weepFor (d := d - 1) gP (by omega)) rfl rfl gP.1 rfl rfl (by omega) (by omega) (by omega) (Nat.le_of_ble_eq_true rfl) ?_
          refine ko_iret dX4_weep_59 rfl (Nat.le_of_ble_eq_true rfl) (Nat.le_of_ble_eq_true rfl) ?_
          rfl
        · exact absurd ok (by simp [weB, c_8, c_19, c_33])
      · exact absurd ok (by simp [weB, c_8, c_19])
set_option maxRecDepth 20000 in
theorem x_weep0 {G : kx_G} {d N x : Nat} {h : kx_H} {T : Nat → Int32} {L : Nat} {u : PU} {C : Nat} {Ac K : Nat → PU} {kf : Nat → Int32} {sd : Int64} {p q : Int32} (ok : weB u p q = false) (hS : kS h x T L u C Ac K kf sd) (hd : 20 ≤ d) : kx_Fn mX4_weep d 0 0 G [.ref x, .int p, .int q] N h (some (.int (weI u p q)), N, h) := by
  refine kx_Fn_of rfl (Nat.le_of_ble_eq_true rfl) rfl ?_ (kx_self)
  obtain ⟨told, trial, F, B, s, f, hi, hf, hF, hC, hB, hL⟩ := id hS
  obtain ⟨s1, s2, s3, s4, s5, s6, s7, s8, s9, s10, s11⟩ := id hi
  refine ko_aload_n (i := 0) dX4_weep_0 rfl rfl ?_
  refine ko_get fl_X4_19 dX4_weep_1 s1 rfl ?_
  refine ko_iload_n (i := 1) dX4_weep_4 rfl rfl ?_
  refine ko_callVr lk_X4_90 dX4_weep_5 (fn_has (d := d - 1) s5) rfl rfl s5.1 rfl rfl (by omega) (by omega) (by omega) (Nat.le_of_ble_eq_true rfl) ?_
  first | refine ko_ifb_eq (tgt := 22) dX4_weep_8 (by decide) (fun c_8 => ?_) (fun c_8 => ?_) | refine ko_if_eq (tgt := 22) dX4_weep_8 (by decide) (fun c_8 => ?_) (fun c_8 => ?_)
  · refine ko_iconst (v := (-1)) dX4_weep_22 (by decide) ?_
    refine ko_iret dX4_weep_23 rfl (Nat.le_of_ble_eq_true rfl) (Nat.le_of_ble_eq_true rfl) ?_
    simp [weI, c_8]
  · refine ko_aload_n (i := 0) dX4_weep_11 rfl rfl ?_
    refine ko_get fl_X4_19 dX4_weep_12 s1 rfl ?_
    refine ko_iload_n (i := 2) dX4_weep_15 rfl rfl ?_
    refine ko_callVr lk_X4_90 dX4_weep_16 (fn_has (d := d - 1) s5) rfl rfl s5.1 rfl rfl (by omega) (by omega) (by omega) (Nat.le_of_ble_eq_true rfl) ?_
    first | refine ko_ifb_ne (tgt := 24) dX4_weep_19 (by decide) (fun c_19 => ?_) (fun c_19 => ?_) | refine ko_if_ne (tgt := 24) dX4_weep_19 (by decide) (fun c_19 => ?_) (fun c_19 => ?_)
    · refine ko_aload_n (i := 0) dX4_weep_24 rfl rfl ?_
      refine ko_get fl_X4_19 dX4_weep_25 s1 rfl ?_
      refine ko_iload_n (i := 1) dX4_weep_28 rfl rfl ?_
      refine ko_iload_n (i := 2) dX4_weep_29 rfl rfl ?_
      refine ko_callVr lk_X4_132 dX4_weep_30 (fn_mayWeep (d := d - 1) s5 (by omega)) rfl rfl s5.1 rfl rfl (by omega) (by omega) (by omega) (Nat.le_of_ble_eq_true rfl) ?_
      first | refine ko_ifb_ne (tgt := 39) dX4_weep_33 (by decide) (fun c_33 => ?_) (fun c_33 => ?_) | refine ko_if_ne (tgt := 39) dX4_weep_33 (by decide) (fun c_33 => ?_) (fun c_33 => ?_)
      · exact absurd ok (by simp [weB, c_8, c_19, c_33])
      · refine ko_bipush (v := (-3)) dX4_weep_36 (by decide) ?_
        refine ko_iret dX4_weep_38 rfl (Nat.le_of_ble_eq_true rfl) (Nat.le_of_ble_eq_true rfl) ?_
        simp [weI, c_8, c_19, c_33]
    · refine ko_iconst (v := (-1)) dX4_weep_22 (by decide) ?_
      refine ko_iret dX4_weep_23 rfl (Nat.le_of_ble_eq_true rfl) (Nat.le_of_ble_eq_true rfl) ?_
      simp [weI, c_8, c_19]
set_option maxRecDepth 20000 in
theorem x_onions1 {G : kx_G} {d N x : Nat} {h : kx_H} {T : Nat → Int32} {L : Nat} {u : PU} {C : Nat} {Ac K : Nat → PU} {kf : Nat → Int32} {sd : Int64} {p q : Int32} (hS : kS h x T L u C Ac K kf sd) (ok : onB u p q = true) (hd : 20 ≤ d) : ∃ g, kx_Fn mX4_onions d 0 0 G [.ref x, .int p, .int q] N h (some (.int (bcI (pOn (onU u p q)))), N, g) ∧ kS g x T L (onU u p q) (rmC C) (rmA C Ac u) K kf sd ∧ kFr h g x 121 := by
  obtain ⟨told, trial, F, B, s, f, hi, hf, hF, hC, hB, hL⟩ := id hS
  obtain ⟨s1, s2, s3, s4, s5, s6, s7, s8, s9, s10, s11⟩ := id hi
  obtain ⟨g1, hg1, S1, fr1, gx, gP⟩ := sys_remember (G := G) (N := N) (d := d - 1) hS (by omega)
  have fr : kFr h (kp_put g1 (x + 9) (onU u p q)) x 121 := fr1.tr (kFr.put (by omega))
  refine ⟨(kp_put g1 (x + 9) (onU u p q)), kx_Fn_of rfl (Nat.le_of_ble_eq_true rfl) rfl ?_ (kS_dom hS fr), kS_now S1 _, fr⟩
  · refine ko_aload_n (i := 0) dX4_onions_0 rfl rfl ?_
    refine ko_get fl_X4_19 dX4_onions_1 s1 rfl ?_
    refine ko_iload_n (i := 1) dX4_onions_4 rfl rfl ?_
    refine ko_callVr lk_X4_90 dX4_onions_5 (fn_has (d := d - 1) s5) rfl rfl s5.1 rfl rfl (by omega) (by omega) (by omega) (Nat.le_of_ble_eq_true rfl) ?_
    first | refine ko_ifb_eq (tgt := 22) dX4_onions_8 (by decide) (fun c_8 => ?_) (fun c_8 => ?_) | refine ko_if_eq (tgt := 22) dX4_onions_8 (by decide) (fun c_8 => ?_) (fun c_8 => ?_)
    · exact absurd ok (by simp [onB, c_8])
    · refine ko_aload_n (i := 0) dX4_onions_11 rfl rfl ?_
      refine ko_get fl_X4_19 dX4_onions_12 s1 rfl ?_
      refine ko_iload_n (i := 2) dX4_onions_15 rfl rfl ?_
      refine ko_callVr lk_X4_90 dX4_onions_16 (fn_has (d := d - 1) s5) rfl rfl s5.1 rfl rfl (by omega) (by omega) (by omega) (Nat.le_of_ble_eq_true rfl) ?_
      first | refine ko_ifb_ne (tgt := 24) dX4_onions_19 (by decide) (fun c_19 => ?_) (fun c_19 => ?_) | refine ko_if_ne (tgt := 24) dX4_onions_19 (by decide) (fun c_19 => ?_) (fun c_19 => ?_)
      · refine ko_aload_n (i := 0) dX4_onions_24 rfl rfl ?_
        refine ko_get fl_X4_19 dX4_onions_25 s1 rfl ?_
        refine ko_iload_n (i := 1) dX4_onions_28 rfl rfl ?_
        refine ko_iload_n (i := 2) dX4_onions_29 rfl rfl ?_
        refine ko_callVr lk_X4_139 dX4_onions_30 (fn_mayUseOnions (d := d - 1) s5 (by omega)) rfl rfl s5.1 rfl rfl (by omega) (by omega) (by omega) (Nat.le_of_ble_eq_true rfl) ?_
        first | refine ko_ifb_ne (tgt := 39) dX4_onions_33 (by decide) (fun c_33 => ?_) (fun c_33 => ?_) | refine ko_if_ne (tgt := 39) dX4_onions_33 (by decide) (fun c_33 => ?_) (fun c_33 => ?_)
        · refine ko_aload_n (i := 0) dX4_onions_39 rfl rfl ?_
          refine ko_get fl_X4_29 dX4_onions_40 s1 rfl ?_
          refine ko_aload_n (i := 0) dX4_onions_43 rfl rfl ?_
          refine ko_get fl_X4_19 dX4_onions_44 s1 rfl ?_
          refine ko_callVv lk_X4_120 dX4_onions_47 hg1 rfl rfl s7.1 rfl rfl (by omega) (by omega) (by omega) (Nat.le_of_ble_eq_true rfl) ?_
          refine ko_aload_n (i := 0) dX4_onions_50 rfl rfl ?_
          refine ko_get fl_X4_19 dX4_onions_51 gx rfl ?_
          refine ko_iload_n (i := 1) dX4_onions_54 rfl rfl ?_
          refine ko_iload_n (i := 2) dX4_onions_55 rfl rfl ?_
          refine ko_callVv lk_X4_142 dX4_onions_56 (fn_useOnions (d := d - 1) gP (by omega)) rfl rfl gP.1 rfl rfl (by omega) (by omega) (by omega) (Nat.le_of_ble_eq_true rfl) ?_
          refine ko_aload_n (i := 0) dX4_onions_59 rfl rfl ?_
          refine ko_get fl_X4_19 dX4_onions_60 ((kp_put_out (by omega)).trans gx) rfl ?_
          refine ko_get fl_X4_83 dX4_onions_63 (kp_put_P _ _ _).1 rfl ?_
          refine ko_callSr lk_X4_127 dX4_onions_66 (fn_bitCount (d := d - 1)) rfl rfl (by omega) (by omega) (by omega) (Nat.le_of_ble_eq_true rfl) ?_
          refine ko_iret dX4_onions_69 rfl (Nat.le_of_ble_eq_true rfl) (Nat.le_of_ble_eq_true rfl) ?_
          rfl
        · exact absurd ok (by simp [onB, c_8, c_19, c_33])
      · exact absurd ok (by simp [onB, c_8, c_19])
set_option maxRecDepth 20000 in
theorem x_onions0 {G : kx_G} {d N x : Nat} {h : kx_H} {T : Nat → Int32} {L : Nat} {u : PU} {C : Nat} {Ac K : Nat → PU} {kf : Nat → Int32} {sd : Int64} {p q : Int32} (ok : onB u p q = false) (hS : kS h x T L u C Ac K kf sd) (hd : 20 ≤ d) : kx_Fn mX4_onions d 0 0 G [.ref x, .int p, .int q] N h (some (.int (weI u p q)), N, h) := by
  refine kx_Fn_of rfl (Nat.le_of_ble_eq_true rfl) rfl ?_ (kx_self)
  obtain ⟨told, trial, F, B, s, f, hi, hf, hF, hC, hB, hL⟩ := id hS
  obtain ⟨s1, s2, s3, s4, s5, s6, s7, s8, s9, s10, s11⟩ := id hi
  refine ko_aload_n (i := 0) dX4_onions_0 rfl rfl ?_
  refine ko_get fl_X4_19 dX4_onions_1 s1 rfl ?_
  refine ko_iload_n (i := 1) dX4_onions_4 rfl rfl ?_
  refine ko_callVr lk_X4_90 dX4_onions_5 (fn_has (d := d - 1) s5) rfl rfl s5.1 rfl rfl (by omega) (by omega) (by omega) (Nat.le_of_ble_eq_true rfl) ?_
  first | refine ko_ifb_eq (tgt := 22) dX4_onions_8 (by decide) (fun c_8 => ?_) (fun c_8 => ?_) | refine ko_if_eq (tgt := 22) dX4_onions_8 (by decide) (fun c_8 => ?_) (fun c_8 => ?_)
  · refine ko_iconst (v := (-1)) dX4_onions_22 (by decide) ?_
    refine ko_iret dX4_onions_23 rfl (Nat.le_of_ble_eq_true rfl) (Nat.le_of_ble_eq_true rfl) ?_
    simp [weI, c_8]
  · refine ko_aload_n (i := 0) dX4_onions_11 rfl rfl ?_
    refine ko_get fl_X4_19 dX4_onions_12 s1 rfl ?_
    refine ko_iload_n (i := 2) dX4_onions_15 rfl rfl ?_
    refine ko_callVr lk_X4_90 dX4_onions_16 (fn_has (d := d - 1) s5) rfl rfl s5.1 rfl rfl (by omega) (by omega) (by omega) (Nat.le_of_ble_eq_true rfl) ?_
    first | refine ko_ifb_ne (tgt := 24) dX4_onions_19 (by decide) (fun c_19 => ?_) (fun c_19 => ?_) | refine ko_if_ne (tgt := 24) dX4_onions_19 (by decide) (fun c_19 => ?_) (fun c_19 => ?_)
    · refine ko_aload_n (i := 0) dX4_onions_24 rfl rfl ?_
      refine ko_get fl_X4_19 dX4_onions_25 s1 rfl ?_
      refine ko_iload_n (i := 1) dX4_onions_28 rfl rfl ?_
      refine ko_iload_n (i := 2) dX4_onions_29 rfl rfl ?_
      refine ko_callVr lk_X4_139 dX4_onions_30 (fn_mayUseOnions (d := d - 1) s5 (by omega)) rfl rfl s5.1 rfl rfl (by omega) (by omega) (by omega) (Nat.le_of_ble_eq_true rfl) ?_
      first | refine ko_ifb_ne (tgt := 39) dX4_onions_33 (by decide) (fun c_33 => ?_) (fun c_33 => ?_) | refine ko_if_ne (tgt := 39) dX4_onions_33 (by decide) (fun c_33 => ?_) (fun c_33 => ?_)
      · exact absurd ok (by simp [onB, c_8, c_19, c_33])
      · refine ko_bipush (v := (-3)) dX4_onions_36 (by decide) ?_
        refine ko_iret dX4_onions_38 rfl (Nat.le_of_ble_eq_true rfl) (Nat.le_of_ble_eq_true rfl) ?_
        simp [weI, c_8, c_19, c_33]
    · refine ko_iconst (v := (-1)) dX4_onions_22 (by decide) ?_
      refine ko_iret dX4_onions_23 rfl (Nat.le_of_ble_eq_true rfl) (Nat.le_of_ble_eq_true rfl) ?_
      simp [weI, c_8, c_19]
set_option maxRecDepth 20000 in
theorem x_week {G : kx_G} {d N x : Nat} {h : kx_H} {T : Nat → Int32} {L : Nat} {u : PU} {C : Nat} {Ac K : Nat → PU} {kf : Nat → Int32} {sd : Int64} {m : Nat} (hn : pN u = nI m) (hm : m ≤ 5) (hS : kS h x T L u C Ac K kf sd)  (hd : 20 ≤ d) : ∃ g, kx_Fn mX4_week d 0 0 G [.ref x] N h (some (.int (pWk (pwU u m))), N, g) ∧ kS g x T L (pwU u m) (rmC C) (rmA C Ac u) K kf sd ∧ kFr h g x 121 := by
  obtain ⟨told, trial, F, B, s, f, hi, hf, hF, hC, hB, hL⟩ := id hS
  obtain ⟨s1, s2, s3, s4, s5, s6, s7, s8, s9, s10, s11⟩ := id hi
  obtain ⟨g1, hg1, S1, fr1, gx, gP⟩ := sys_remember (G := G) (N := N) (d := d - 1) hS (by omega)
  have fr : kFr h (kp_put g1 (x + 9) (pwU u m)) x 121 := fr1.tr (kFr.put (by omega))
  refine ⟨(kp_put g1 (x + 9) (pwU u m)), kx_Fn_of rfl (Nat.le_of_ble_eq_true rfl) rfl ?_ (kS_dom hS fr), kS_now S1 _, fr⟩
  · refine ko_aload_n (i := 0) dX4_week_0 rfl rfl ?_
    refine ko_get fl_X4_29 dX4_week_1 s1 rfl ?_
    refine ko_aload_n (i := 0) dX4_week_4 rfl rfl ?_
    refine ko_get fl_X4_19 dX4_week_5 s1 rfl ?_
    refine ko_callVv lk_X4_120 dX4_week_8 hg1 rfl rfl s7.1 rfl rfl (by omega) (by omega) (by omega) (Nat.le_of_ble_eq_true rfl) ?_
    refine ko_aload_n (i := 0) dX4_week_11 rfl rfl ?_
    refine ko_get fl_X4_19 dX4_week_12 gx rfl ?_
    refine ko_callVv lk_X4_146 dX4_week_15 (fn_passWeek (d := d - 1) gP hn hm (by omega)) rfl rfl gP.1 rfl rfl (by omega) (by omega) (by omega) (Nat.le_of_ble_eq_true rfl) ?_
    refine ko_aload_n (i := 0) dX4_week_18 rfl rfl ?_
    refine ko_get fl_X4_19 dX4_week_19 ((kp_put_out (by omega)).trans gx) rfl ?_
    refine ko_get fl_X4_80 dX4_week_22 (kp_put_P _ _ _).1 rfl ?_
    refine ko_iret dX4_week_25 rfl (Nat.le_of_ble_eq_true rfl) (Nat.le_of_ble_eq_true rfl) ?_
    rfl
set_option maxRecDepth 20000 in
theorem x_undo0 {G : kx_G} {d N x : Nat} {h : kx_H} {T : Nat → Int32} {L : Nat} {u : PU} {C : Nat} {Ac K : Nat → PU} {kf : Nat → Int32} {sd : Int64} (h0 : C = 0) (hS : kS h x T L u C Ac K kf sd) (hd : 20 ≤ d) : kx_Fn mX4_undo d 0 0 G [.ref x] N h (some (.int (-3)), N, h) := by
  refine kx_Fn_of rfl (Nat.le_of_ble_eq_true rfl) rfl ?_ (kx_self)
  obtain ⟨told, trial, F, B, s, f, hi, hf, hF, hC, hB, hL⟩ := id hS
  obtain ⟨s1, s2, s3, s4, s5, s6, s7, s8, s9, s10, s11⟩ := id hi
  subst h0
  refine ko_aload_n (i := 0) dX4_undo_0 rfl rfl ?_
  refine ko_get fl_X4_29 dX4_undo_1 s1 rfl ?_
  refine ko_get fl_X4_86 dX4_undo_4 s7.1 rfl ?_
  first | refine ko_ifb_ne (tgt := 13) dX4_undo_7 (by decide) (fun c_7 => ?_) (fun c_7 => ?_) | refine ko_if_ne (tgt := 13) dX4_undo_7 (by decide) (fun c_7 => ?_) (fun c_7 => ?_)
  · exact absurd rfl c_7
  · refine ko_bipush (v := (-3)) dX4_undo_10 (by decide) ?_
    refine ko_iret dX4_undo_12 rfl (Nat.le_of_ble_eq_true rfl) (Nat.le_of_ble_eq_true rfl) ?_
    rfl
set_option maxRecDepth 20000 in
theorem x_undo1 {G : kx_G} {d N x : Nat} {h : kx_H} {T : Nat → Int32} {L : Nat} {u : PU} {C : Nat} {Ac K : Nat → PU} {kf : Nat → Int32} {sd : Int64} (h0 : 0 < C) (hS : kS h x T L u C Ac K kf sd)  (hd : 20 ≤ d) : ∃ g, kx_Fn mX4_undo d 0 0 G [.ref x] N h (some (.int (nI (C - 1))), N, g) ∧ kS g x T L (Ac (C - 1)) (C - 1) Ac K kf sd ∧ kFr h g x 121 := by
  obtain ⟨told, trial, F, B, s, f, hi, hf, hF, hC, hB, hL⟩ := id hS
  obtain ⟨s1, s2, s3, s4, s5, s6, s7, s8, s9, s10, s11⟩ := id hi
  have fr : kFr h (kp_put (kx_up h (x + 21) (kao (x + 21) F (C - 1))) (x + 9) (B ((F + (C - 1)) % 14))) x 121 := (kFr.up (by omega)).tr (kFr.put (by omega))
  refine ⟨(kp_put (kx_up h (x + 21) (kao (x + 21) F (C - 1))) (x + 9) (B ((F + (C - 1)) % 14))), kx_Fn_of rfl (Nat.le_of_ble_eq_true rfl) rfl ?_ (kS_dom hS fr), (by
    have e9 := hB (C - 1) (by omega)
    rw [e9]
    exact ⟨told, trial, F, B, s, f, kSi_now (kSi_acts hi (kA_obj s7 F (C - 1)) (fun q hq => ku_n (by omega))) _, hf, hF, by omega, fun i hi9 => hB i (by omega), hL⟩), fr⟩
  · refine ko_aload_n (i := 0) dX4_undo_0 rfl rfl ?_
    refine ko_get fl_X4_29 dX4_undo_1 s1 rfl ?_
    refine ko_get fl_X4_86 dX4_undo_4 s7.1 rfl ?_
    refine ko_if_ne (tgt := 13) dX4_undo_7 (by decide) (fun c_7 => ?_) (fun c_7 => ?_)
    · refine ko_aload_n (i := 0) dX4_undo_13 rfl rfl ?_
      refine ko_get fl_X4_29 dX4_undo_14 s1 rfl ?_
      refine ko_aload_n (i := 0) dX4_undo_17 rfl rfl ?_
      refine ko_get fl_X4_19 dX4_undo_18 s1 rfl ?_
      refine ko_callVv lk_X4_149 dX4_undo_21 (fn_takeLast (d := d - 1) s7 h0 hC hF s5 (by omega) (by omega)) rfl rfl s7.1 rfl rfl (by omega) (by omega) (by omega) (Nat.le_of_ble_eq_true rfl) ?_
      refine ko_aload_n (i := 0) dX4_undo_24 rfl rfl ?_
      refine ko_get fl_X4_29 dX4_undo_25 ((kp_put_out (by omega)).trans ((ku_n (by omega)).trans s1)) rfl ?_
      refine ko_get fl_X4_86 dX4_undo_28 ((kp_put_out (by omega)).trans ku_s) rfl ?_
      refine ko_iret dX4_undo_31 rfl (Nat.le_of_ble_eq_true rfl) (Nat.le_of_ble_eq_true rfl) ?_
      rfl
    · exact absurd (show nI C = nI 0 from c_7) (fun z => absurd ((nI_eq (by omega) (by omega)).mp z) (by omega))
theorem kf_elt {f : Nat → Option Nat} {x j : Nat} (hf : ∀ i, i < 2 → f i = some (x + 109 + 6 * i)) (hj : j < 2) : f (nI j).toNatClampNeg = some (x + 109 + 6 * j) := by
  rw [nI_clamp (by omega)]; exact hf j hj
set_option maxRecDepth 20000 in
theorem x_keep0 {G : kx_G} {d N x : Nat} {h : kx_H} {T : Nat → Int32} {L : Nat} {u : PU} {C : Nat} {Ac K : Nat → PU} {kf : Nat → Int32} {sd : Int64} {k : Int32} (hk : k < 0 ∨ ¬ k < 2) (hS : kS h x T L u C Ac K kf sd) (hd : 20 ≤ d) : kx_Fn mX4_keep d 0 0 G [.ref x, .int k] N h (some (.int (-1)), N, h) := by
  refine kx_Fn_of rfl (Nat.le_of_ble_eq_true rfl) rfl ?_ (kx_self)
  obtain ⟨told, trial, F, B, s, f, hi, hf, hF, hC, hB, hL⟩ := id hS
  obtain ⟨s1, s2, s3, s4, s5, s6, s7, s8, s9, s10, s11⟩ := id hi
  refine ko_iload_n (i := 1) dX4_keep_0 rfl rfl ?_
  refine ko_if_lt (tgt := 9) dX4_keep_1 (by decide) (fun c_1 => ?_) (fun c_1 => ?_)
  · refine ko_iconst (v := (-1)) dX4_keep_9 (by decide) ?_
    refine ko_iret dX4_keep_10 rfl (Nat.le_of_ble_eq_true rfl) (Nat.le_of_ble_eq_true rfl) ?_
    rfl
  · refine ko_iload_n (i := 1) dX4_keep_4 rfl rfl ?_
    refine ko_iconst (v := 2) dX4_keep_5 (by decide) ?_
    refine ko_icmp_lt (tgt := 11) dX4_keep_6 (by decide) (fun c_6 => ?_) (fun c_6 => ?_)
    · exact absurd hk (by simp [c_1, c_6])
    · refine ko_iconst (v := (-1)) dX4_keep_9 (by decide) ?_
      refine ko_iret dX4_keep_10 rfl (Nat.le_of_ble_eq_true rfl) (Nat.le_of_ble_eq_true rfl) ?_
      rfl
set_option maxRecDepth 20000 in
theorem x_again0 {G : kx_G} {d N x : Nat} {h : kx_H} {T : Nat → Int32} {L : Nat} {u : PU} {C : Nat} {Ac K : Nat → PU} {kf : Nat → Int32} {sd : Int64} {k : Int32} (hk : k < 0 ∨ ¬ k < 2) (hS : kS h x T L u C Ac K kf sd) (hd : 20 ≤ d) : kx_Fn mX4_again d 0 0 G [.ref x, .int k] N h (some (.int (-1)), N, h) := by
  refine kx_Fn_of rfl (Nat.le_of_ble_eq_true rfl) rfl ?_ (kx_self)
  obtain ⟨told, trial, F, B, s, f, hi, hf, hF, hC, hB, hL⟩ := id hS
  obtain ⟨s1, s2, s3, s4, s5, s6, s7, s8, s9, s10, s11⟩ := id hi
  refine ko_iload_n (i := 1) dX4_again_0 rfl rfl ?_
  refine ko_if_lt (tgt := 9) dX4_again_1 (by decide) (fun c_1 => ?_) (fun c_1 => ?_)
  · refine ko_iconst (v := (-1)) dX4_again_9 (by decide) ?_
    refine ko_iret dX4_again_10 rfl (Nat.le_of_ble_eq_true rfl) (Nat.le_of_ble_eq_true rfl) ?_
    rfl
  · refine ko_iload_n (i := 1) dX4_again_4 rfl rfl ?_
    refine ko_iconst (v := 2) dX4_again_5 (by decide) ?_
    refine ko_icmp_lt (tgt := 11) dX4_again_6 (by decide) (fun c_6 => ?_) (fun c_6 => ?_)
    · exact absurd hk (by simp [c_1, c_6])
    · refine ko_iconst (v := (-1)) dX4_again_9 (by decide) ?_
      refine ko_iret dX4_again_10 rfl (Nat.le_of_ble_eq_true rfl) (Nat.le_of_ble_eq_true rfl) ?_
      rfl
set_option maxRecDepth 20000 in
theorem x_again2 {G : kx_G} {d N x : Nat} {h : kx_H} {T : Nat → Int32} {L : Nat} {u : PU} {C : Nat} {Ac K : Nat → PU} {kf : Nat → Int32} {sd : Int64} {j : Nat} (hj : j < 2) (hz : kf j = 0) (hS : kS h x T L u C Ac K kf sd) (hd : 20 ≤ d) : kx_Fn mX4_again d 0 0 G [.ref x, .int (nI j)] N h (some (.int (-3)), N, h) := by
  refine kx_Fn_of rfl (Nat.le_of_ble_eq_true rfl) rfl ?_ (kx_self)
  obtain ⟨told, trial, F, B, s, f, hi, hf, hF, hC, hB, hL⟩ := id hS
  obtain ⟨s1, s2, s3, s4, s5, s6, s7, s8, s9, s10, s11⟩ := id hi
  refine ko_iload_n (i := 1) dX4_again_0 rfl rfl ?_
  refine ko_if_lt (tgt := 9) dX4_again_1 (by decide) (fun c_1 => ?_) (fun c_1 => ?_)
  · first | exact absurd c_1 (nI_pos (by omega)) | exact absurd (show nI j < nI 2 from nI_lt hj (by omega)) c_6
  · refine ko_iload_n (i := 1) dX4_again_4 rfl rfl ?_
    refine ko_iconst (v := 2) dX4_again_5 (by decide) ?_
    refine ko_icmp_lt (tgt := 11) dX4_again_6 (by decide) (fun c_6 => ?_) (fun c_6 => ?_)
    · refine ko_aload_n (i := 0) dX4_again_11 rfl rfl ?_
      refine ko_get fl_X4_37 dX4_again_12 s1 rfl ?_
      refine ko_iload_n (i := 1) dX4_again_15 rfl rfl ?_
      refine ko_zald dX4_again_16 s9 (vp_in_nI hj (by omega)) ?_
      rw [nI_clamp (by omega)]
      refine ko_if_ne (tgt := 23) dX4_again_17 (by decide) (fun c_17 => ?_) (fun c_17 => ?_)
      · exact absurd hz c_17
      · refine ko_bipush (v := (-3)) dX4_again_20 (by decide) ?_
        refine ko_iret dX4_again_22 rfl (Nat.le_of_ble_eq_true rfl) (Nat.le_of_ble_eq_true rfl) ?_
        rfl
    · first | exact absurd c_1 (nI_pos (by omega)) | exact absurd (show nI j < nI 2 from nI_lt hj (by omega)) c_6
set_option maxRecDepth 20000 in
theorem x_keep1 {G : kx_G} {d N x : Nat} {h : kx_H} {T : Nat → Int32} {L : Nat} {u : PU} {C : Nat} {Ac K : Nat → PU} {kf : Nat → Int32} {sd : Int64} {j : Nat} (hj : j < 2) (hS : kS h x T L u C Ac K kf sd)  (hd : 20 ≤ d) : ∃ g, kx_Fn mX4_keep d 0 0 G [.ref x, .int (nI j)] N h (some (.int (pWk u)), N, g) ∧ kS g x T L u C Ac (fun i => if i = j then u else K i) (upd kf j 1) sd ∧ kFr h g x 121 := by
  obtain ⟨told, trial, F, B, s, f, hi, hf, hF, hC, hB, hL⟩ := id hS
  obtain ⟨s1, s2, s3, s4, s5, s6, s7, s8, s9, s10, s11⟩ := id hi
  have fr : kFr h (kx_up (kp_put h (x + 109 + 6 * j) u) (x + 108) (kz (upd kf j 1))) x 121 := (kFr.put (by omega)).tr (kFr.up (by omega))
  refine ⟨(kx_up (kp_put h (x + 109 + 6 * j) u) (x + 108) (kz (upd kf j 1))), kx_Fn_of rfl (Nat.le_of_ble_eq_true rfl) rfl ?_ (kS_dom hS fr), kS_kf (kS_kept hS j hj u) _, fr⟩
  · refine ko_iload_n (i := 1) dX4_keep_0 rfl rfl ?_
    refine ko_if_lt (tgt := 9) dX4_keep_1 (by decide) (fun c_1 => ?_) (fun c_1 => ?_)
    · first | exact absurd c_1 (nI_pos (by omega)) | exact absurd (show nI j < nI 2 from nI_lt hj (by omega)) c_6
    · refine ko_iload_n (i := 1) dX4_keep_4 rfl rfl ?_
      refine ko_iconst (v := 2) dX4_keep_5 (by decide) ?_
      refine ko_icmp_lt (tgt := 11) dX4_keep_6 (by decide) (fun c_6 => ?_) (fun c_6 => ?_)
      · refine ko_aload_n (i := 0) dX4_keep_11 rfl rfl ?_
        refine ko_get fl_X4_33 dX4_keep_12 s1 rfl ?_
        refine ko_iload_n (i := 1) dX4_keep_15 rfl rfl ?_
        refine ko_aald dX4_keep_16 s8 (vp_in_nI hj (by omega)) (kf_elt hf hj) ?_
        refine ko_aload_n (i := 0) dX4_keep_17 rfl rfl ?_
        refine ko_get fl_X4_19 dX4_keep_18 s1 rfl ?_
        refine ko_callVv lk_X4_67 dX4_keep_21 (fn_copyFrom (d := d - 1) (s10 j hj) s5 (by omega) (by omega)) rfl rfl (s10 j hj).1 rfl rfl (by omega) (by omega) (by omega) (Nat.le_of_ble_eq_true rfl) ?_
        refine ko_aload_n (i := 0) dX4_keep_24 rfl rfl ?_
        refine ko_get fl_X4_37 dX4_keep_25 ((kp_put_out (by omega)).trans s1) rfl ?_
        refine ko_iload_n (i := 1) dX4_keep_28 rfl rfl ?_
        refine ko_iconst (v := 1) dX4_keep_29 (by decide) ?_
        refine ko_zast dX4_keep_30 ((kp_put_out (by omega)).trans s9) (vp_in_nI hj (by omega)) ?_
        rw [nI_clamp (by omega), nar1]
        refine ko_aload_n (i := 0) dX4_keep_31 rfl rfl ?_
        refine ko_get fl_X4_19 dX4_keep_32 ((ku_n (by omega)).trans ((kp_put_out (by omega)).trans s1)) rfl ?_
        refine ko_get fl_X4_80 dX4_keep_35 (kP_up (kp_put_other s5 (by omega)) (by omega)).1 rfl ?_
        refine ko_iret dX4_keep_38 rfl (Nat.le_of_ble_eq_true rfl) (Nat.le_of_ble_eq_true rfl) ?_
        rfl
      · first | exact absurd c_1 (nI_pos (by omega)) | exact absurd (show nI j < nI 2 from nI_lt hj (by omega)) c_6
set_option maxRecDepth 20000 in
theorem x_again1 {G : kx_G} {d N x : Nat} {h : kx_H} {T : Nat → Int32} {L : Nat} {u : PU} {C : Nat} {Ac K : Nat → PU} {kf : Nat → Int32} {sd : Int64} {j : Nat} (hj : j < 2) (hz : ¬ kf j = 0) (hS : kS h x T L u C Ac K kf sd)  (hd : 20 ≤ d) : ∃ g, kx_Fn mX4_again d 0 0 G [.ref x, .int (nI j)] N h (some (.int (pWk (K j))), N, g) ∧ kS g x T L (K j) 0 Ac K kf sd ∧ kFr h g x 121 := by
  obtain ⟨told, trial, F, B, s, f, hi, hf, hF, hC, hB, hL⟩ := id hS
  obtain ⟨s1, s2, s3, s4, s5, s6, s7, s8, s9, s10, s11⟩ := id hi
  have fr : kFr h (kx_up (kp_put h (x + 9) (K j)) (x + 21) (kao (x + 21) 0 0)) x 121 := (kFr.put (by omega)).tr (kFr.up (by omega))
  refine ⟨(kx_up (kp_put h (x + 9) (K j)) (x + 21) (kao (x + 21) 0 0)), kx_Fn_of rfl (Nat.le_of_ble_eq_true rfl) rfl ?_ (kS_dom hS fr), kS_forget (kS_now hS _), fr⟩
  · refine ko_iload_n (i := 1) dX4_again_0 rfl rfl ?_
    refine ko_if_lt (tgt := 9) dX4_again_1 (by decide) (fun c_1 => ?_) (fun c_1 => ?_)
    · first | exact absurd c_1 (nI_pos (by omega)) | exact absurd (show nI j < nI 2 from nI_lt hj (by omega)) c_6
    · refine ko_iload_n (i := 1) dX4_again_4 rfl rfl ?_
      refine ko_iconst (v := 2) dX4_again_5 (by decide) ?_
      refine ko_icmp_lt (tgt := 11) dX4_again_6 (by decide) (fun c_6 => ?_) (fun c_6 => ?_)
      · refine ko_aload_n (i := 0) dX4_again_11 rfl rfl ?_
        refine ko_get fl_X4_37 dX4_again_12 s1 rfl ?_
        refine ko_iload_n (i := 1) dX4_again_15 rfl rfl ?_
        refine ko_zald dX4_again_16 s9 (vp_in_nI hj (by omega)) ?_
        rw [nI_clamp (by omega)]
        refine ko_if_ne (tgt := 23) dX4_again_17 (by decide) (fun c_17 => ?_) (fun c_17 => ?_)
        · refine ko_aload_n (i := 0) dX4_again_23 rfl rfl ?_
          refine ko_get fl_X4_19 dX4_again_24 s1 rfl ?_
          refine ko_aload_n (i := 0) dX4_again_27 rfl rfl ?_
          refine ko_get fl_X4_33 dX4_again_28 s1 rfl ?_
          refine ko_iload_n (i := 1) dX4_again_31 rfl rfl ?_
          refine ko_aald dX4_again_32 s8 (vp_in_nI hj (by omega)) (kf_elt hf hj) ?_
          refine ko_callVv lk_X4_67 dX4_again_33 (fn_copyFrom (d := d - 1) s5 (s10 j hj) (by omega) (by omega)) rfl rfl s5.1 rfl rfl (by omega) (by omega) (by omega) (Nat.le_of_ble_eq_true rfl) ?_
          refine ko_aload_n (i := 0) dX4_again_36 rfl rfl ?_
          refine ko_get fl_X4_29 dX4_again_37 ((kp_put_out (by omega)).trans s1) rfl ?_
          refine ko_callVv lk_X4_71 dX4_again_40 (fn_forgetAll (d := d - 1) ((kp_put_out (by omega)).trans s7.1)) rfl rfl ((kp_put_out (by omega)).trans s7.1) rfl rfl (by omega) (by omega) (by omega) (Nat.le_of_ble_eq_true rfl) ?_
          refine ko_aload_n (i := 0) dX4_again_43 rfl rfl ?_
          refine ko_get fl_X4_19 dX4_again_44 ((ku_n (by omega)).trans ((kp_put_out (by omega)).trans s1)) rfl ?_
          refine ko_get fl_X4_80 dX4_again_47 (kP_up (kp_put_P _ _ _) (by omega)).1 rfl ?_
          refine ko_iret dX4_again_50 rfl (Nat.le_of_ble_eq_true rfl) (Nat.le_of_ble_eq_true rfl) ?_
          rfl
        · exact absurd c_17 hz
      · first | exact absurd c_1 (nI_pos (by omega)) | exact absurd (show nI j < nI 2 from nI_lt hj (by omega)) c_6
