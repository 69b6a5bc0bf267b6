/-! ===== the reference: undone, kept, waiting, netted ===== -/
theorem in2 {k : Int32} (hk : k < 0 ∨ ¬ k < 2) : inI k 0 1 = false := by
  rw [Bool.eq_false_iff]
  intro h
  simp only [inI, Bool.and_eq_true, Bool.not_eq_true', decide_eq_false_iff_not, Int32.lt_iff_toInt_lt] at h hk
  have e0 : (0 : Int32).toInt = 0 := rfl
  have e1 : (1 : Int32).toInt = 1 := rfl
  have e2 : (2 : Int32).toInt = 2 := rfl
  rw [e0, e2] at hk
  rw [e0, e1] at h
  omega
theorem in2T : ∀ j, j < 2 → inI (nI j) 0 1 = true := by decide +kernel
theorem inR (c a b : Int32) : inI c a b = (!decide (c < a) && decide (c ≤ b)) := by
  unfold inI
  congr 1
  rw [Bool.eq_iff_iff]
  simp only [Bool.not_eq_true', decide_eq_false_iff_not, decide_eq_true_eq, Int32.not_lt]
set_option maxRecDepth 20000 in
theorem y_undo0 {G : kx_G} {d N m : Nat} {h : kx_H} {T : Nat → Int32} {L : Nat} {u : PU} {n C : Nat} {Ac K : Nat → PU} {kf : Nat → Int32} {sd : Int64} (h0 : C = 0) (hM : kM h m T L u n C Ac K kf sd) (hw : WF u n) (hd : 20 ≤ d) : kx_Fn mX5_undo d 0 0 G [.ref m] N h (some (.int (-3)), N, h) := by
  refine kx_Fn_of rfl (Nat.le_of_ble_eq_true rfl) rfl ?_ (kx_self)
  obtain ⟨o, Kf, f, tr, rp, rk, bk, kp, zk, va, hi9, r1, r2, r3, r4, r5, r6, r7, r8, r9, rC, rL⟩ := id hM
  obtain ⟨m0, m1, m2, m3, m4, m5, m6, m7, m8, m9, m10⟩ := id hi9
  have hn5 := hw.2.1
  obtain ⟨p1, p2, p3, p4, p5, p6, p7⟩ := id r6
  refine ko_aload_n (i := 0) dX5_undo_0 rfl rfl ?_
  refine ko_iconst (v := 0) dX5_undo_1 (by decide) ?_
  refine ko_put fl_X5_41 dX5_undo_2 m0 rfl rfl (Nat.le_of_ble_eq_true rfl) ?_
  refine ko_h (ku_same m0) ?_
  refine ko_aload_n (i := 0) dX5_undo_5 rfl rfl ?_
  refine ko_get fl_X5_90 dX5_undo_6 m0 rfl ?_
  refine ko_if_ne (tgt := 15) dX5_undo_9 (by decide) (fun c_9 => ?_) (fun c_9 => ?_)
  · exact absurd (by rw [r3, h0]; rfl) c_9
  · refine ko_bipush (v := (-3)) dX5_undo_12 (by decide) ?_
    refine ko_iret dX5_undo_14 rfl (Nat.le_of_ble_eq_true rfl) (Nat.le_of_ble_eq_true rfl) ?_
    rfl
set_option maxRecDepth 20000 in
theorem y_undo1 {G : kx_G} {d N m : Nat} {h : kx_H} {T : Nat → Int32} {L : Nat} {u : PU} {n C : Nat} {Ac K : Nat → PU} {kf : Nat → Int32} {sd : Int64} (h0 : 0 < C) (hk9 : pKd (Ac (C - 1)) = pKd u)  (hM : kM h m T L u n C Ac K kf sd) (hw : WF u n) (hd : 20 ≤ d) : ∃ g, kx_Fn mX5_undo d 0 0 G [.ref m] N h (some (.int (nI (C - 1))), N, g) ∧ kM g m T L (Ac (C - 1)) n (C - 1) Ac K kf sd ∧ kFr h g m 10 := by
  obtain ⟨o, Kf, f, tr, rp, rk, bk, kp, zk, va, hi9, r1, r2, r3, r4, r5, r6, r7, r8, r9, rC, rL⟩ := id hM
  obtain ⟨m0, m1, m2, m3, m4, m5, m6, m7, m8, m9, m10⟩ := id hi9
  have hn5 := hw.2.1
  obtain ⟨p1, p2, p3, p4, p5, p6, p7⟩ := id r6
  have fr : kFr h (kx_up (kx_up h m (kmo m (mTs o, mPl o, mN o, mRp o, (nI (C - 1)), mSd o, mSm o, mSo o, mSw o, mRm o, mRf o))) (m + 5) (ka 43 (cpF (fun k => bk (43 * (C - 1) + k)) f 43))) m 10 := (kFr.up (by omega)).tr (kFr.up (by omega))
  refine ⟨(kx_up (kx_up h m (kmo m (mTs o, mPl o, mN o, mRp o, (nI (C - 1)), mSd o, mSm o, mSo o, mSw o, mRm o, mRf o))) (m + 5) (ka 43 (cpF (fun k => bk (43 * (C - 1) + k)) f 43))), kx_Fn_of rfl (Nat.le_of_ble_eq_true rfl) rfl ?_ (kM_dom hM fr), ⟨_, Kf, _, tr, rp, rk, bk, kp, zk, va, kMi_f (kMi_o hi9 _) _, r1, r2, rfl, r4, by rw [hk9]; exact r5, pgR_cong (fun k hk => if_pos hk) (r7 (C - 1) (by omega)), fun i hi => r7 i (by omega), r8, r9, by omega, rL⟩, fr⟩
  · have LOOP : ∀ (k i : Nat), k + i = 43 → kx_Ok mX5_undo d 0 0 G 0 0 27 [(0, .ref m), (1, .int (nI i))] [] N (kx_up (kx_up h m (kmo m (mTs o, mPl o, mN o, mRp o, (nI (C - 1)), mSd o, mSm o, mSo o, mSw o, mRm o, mRf o))) (m + 5) (ka 43 (cpF (fun k => bk (43 * (C - 1) + k)) f i))) (some (.int (nI (C - 1))), N, (kx_up (kx_up h m (kmo m (mTs o, mPl o, mN o, mRp o, (nI (C - 1)), mSd o, mSm o, mSo o, mSw o, mRm o, mRf o))) (m + 5) (ka 43 (cpF (fun k => bk (43 * (C - 1) + k)) f 43)))) := by
      intro k
      induction k with
      | zero =>
        intro i hi
        obtain rfl : i = 43 := by omega
        refine ko_iload_n (i := 1) dX5_undo_27 rfl rfl ?_
        refine ko_bipush (v := 43) dX5_undo_28 (by decide) ?_
        refine ko_icmp_ge (tgt := 59) dX5_undo_30 (by decide) (fun c_30 => ?_) (fun c_30 => ?_)
        · refine ko_aload_n (i := 0) dX5_undo_59 rfl rfl ?_
          refine ko_get fl_X5_90 dX5_undo_60 ((ku_n (by omega)).trans ku_s) rfl ?_
          refine ko_iret dX5_undo_63 rfl (Nat.le_of_ble_eq_true rfl) (Nat.le_of_ble_eq_true rfl) ?_
          rfl
        · exact absurd (show (43 : Int32) ≤ nI 43 by decide) c_30
      | succ k ih =>
        intro i hi
        refine ko_iload_n (i := 1) dX5_undo_27 rfl rfl ?_
        refine ko_bipush (v := 43) dX5_undo_28 (by decide) ?_
        refine ko_icmp_ge (tgt := 59) dX5_undo_30 (by decide) (fun c_30 => ?_) (fun c_30 => ?_)
        · exact absurd (show nI 43 ≤ nI i from c_30) (nI_ge (by omega) (by omega))
        · refine ko_aload_n (i := 0) dX5_undo_33 rfl rfl ?_
          refine ko_get fl_X5_22 dX5_undo_34 ((ku_n (by omega)).trans ku_s) rfl ?_
          refine ko_iload_n (i := 1) dX5_undo_37 rfl rfl ?_
          refine ko_aload_n (i := 0) dX5_undo_38 rfl rfl ?_
          refine ko_get fl_X5_28 dX5_undo_39 ((ku_n (by omega)).trans ku_s) rfl ?_
          refine ko_bipush (v := 43) dX5_undo_42 (by decide) ?_
          refine ko_aload_n (i := 0) dX5_undo_44 rfl rfl ?_
          refine ko_get fl_X5_90 dX5_undo_45 ((ku_n (by omega)).trans ku_s) rfl ?_
          refine ko_imul dX5_undo_48 ?_
          rw [show (43 : Int32) * nI (C - 1) = nI (43 * (C - 1)) from pk_mul 43 (C - 1)]
          refine ko_iload_n (i := 1) dX5_undo_49 rfl rfl ?_
          refine ko_iadd dX5_undo_50 ?_
          rw [nI_add]
          refine ko_iald dX5_undo_51 ((ku_n (by omega)).trans ((ku_n (by omega)).trans m7)) (in602 (by omega)) ?_
          rw [nI_clamp (by omega)]
          refine ko_iast dX5_undo_52 ku_s (in15 (by omega)) ?_
          rw [nI_clamp (by omega), show upd (cpF (fun k => bk (43 * (C - 1) + k)) f i) i (bk (43 * (C - 1) + i)) = cpF (fun k => bk (43 * (C - 1) + k)) f (i + 1) from cp_s _ _ _]
          refine ko_h (ku_ku _ _ _ _) ?_
          refine ko_inc1 (i := 1) (lv' := [(0, _), (1, _)]) dX5_undo_53 rfl (by decide) rfl rfl rfl ?_
          refine ko_goto (tgt := 27) dX5_undo_56 (by decide) ?_
          exact ko_lv (by simp [nI_succ]) (ih (i + 1) (by omega))
    refine ko_aload_n (i := 0) dX5_undo_0 rfl rfl ?_
    refine ko_iconst (v := 0) dX5_undo_1 (by decide) ?_
    refine ko_put fl_X5_41 dX5_undo_2 m0 rfl rfl (Nat.le_of_ble_eq_true rfl) ?_
    refine ko_h (ku_same m0) ?_
    refine ko_aload_n (i := 0) dX5_undo_5 rfl rfl ?_
    refine ko_get fl_X5_90 dX5_undo_6 m0 rfl ?_
    refine ko_if_ne (tgt := 15) dX5_undo_9 (by decide) (fun c_9 => ?_) (fun c_9 => ?_)
    · refine ko_aload_n (i := 0) dX5_undo_15 rfl rfl ?_
      refine ko_dup dX5_undo_16 rfl ?_
      refine ko_get fl_X5_90 dX5_undo_17 m0 rfl ?_
      refine ko_iconst (v := 1) dX5_undo_20 (by decide) ?_
      refine ko_isub dX5_undo_21 ?_
      rw [r3, show nI C - 1 = nI (C - 1) from pk_sub (b := 1) (by omega)]
      refine ko_put fl_X5_90 dX5_undo_22 m0 rfl rfl (Nat.le_of_ble_eq_true rfl) ?_
      refine ko_iconst (v := 0) dX5_undo_25 (by decide) ?_
      refine ko_istore_n (i := 1) (lv' := [(0, _), (1, _)]) dX5_undo_26 rfl (by decide) rfl rfl rfl ?_
      refine ko_h (h' := kx_up (kx_up h m (kmo m (mTs o, mPl o, mN o, mRp o, (nI (C - 1)), mSd o, mSm o, mSo o, mSw o, mRm o, mRf o))) (m + 5) (ka 43 (cpF (fun k => bk (43 * (C - 1) + k)) f 0))) ?_ (LOOP 43 0 rfl)
      rw [cp_0]
      exact (ku_same ((ku_n (by omega)).trans m5)).symm
    · exact absurd (show nI C = nI 0 from r3.symm.trans c_9) (fun z => absurd ((nI_eq (a := C) (b := 0) (by omega) (by omega)).mp z) (by omega))
set_option maxRecDepth 20000 in
theorem y_keep0 {G : kx_G} {d N m : Nat} {h : kx_H} {T : Nat → Int32} {L : Nat} {u : PU} {n C : Nat} {Ac K : Nat → PU} {kf : Nat → Int32} {sd : Int64} {k : Int32} (hk : k < 0 ∨ ¬ k < 2) (hM : kM h m T L u n C Ac K kf sd) (hw : WF u n) (hd : 20 ≤ d) : kx_Fn mX5_keep d 0 0 G [.ref m, .int k] N h (some (.int (-1)), N, h) := by
  refine kx_Fn_of rfl (Nat.le_of_ble_eq_true rfl) rfl ?_ (kx_self)
  obtain ⟨o, Kf, f, tr, rp, rk, bk, kp, zk, va, hi9, r1, r2, r3, r4, r5, r6, r7, r8, r9, rC, rL⟩ := id hM
  obtain ⟨m0, m1, m2, m3, m4, m5, m6, m7, m8, m9, m10⟩ := id hi9
  have hn5 := hw.2.1
  obtain ⟨p1, p2, p3, p4, p5, p6, p7⟩ := id r6
  refine ko_aload_n (i := 0) dX5_keep_0 rfl rfl ?_
  refine ko_iconst (v := 0) dX5_keep_1 (by decide) ?_
  refine ko_put fl_X5_41 dX5_keep_2 m0 rfl rfl (Nat.le_of_ble_eq_true rfl) ?_
  refine ko_h (ku_same m0) ?_
  refine ko_iload_n (i := 1) dX5_keep_5 rfl rfl ?_
  refine ko_i2l dX5_keep_6 ?_
  refine ko_lconst (v := 0) dX5_keep_7 (by decide) ?_
  refine ko_lconst (v := 1) dX5_keep_8 (by decide) ?_
  refine ko_callSr lk_X5_48 dX5_keep_9 (fn_in (d := d - 1) (v := k) (a := 0) (b := 1)) rfl rfl (by omega) (by omega) (by omega) (Nat.le_of_ble_eq_true rfl) ?_
  first | refine ko_ifb_ne (tgt := 17) dX5_keep_12 (by decide) (fun c_12 => ?_) (fun c_12 => ?_) | refine ko_if_ne (tgt := 17) dX5_keep_12 (by decide) (fun c_12 => ?_) (fun c_12 => ?_)
  · exact absurd c_12 (by rw [in2 hk]; decide)
  · refine ko_iconst (v := (-1)) dX5_keep_15 (by decide) ?_
    refine ko_iret dX5_keep_16 rfl (Nat.le_of_ble_eq_true rfl) (Nat.le_of_ble_eq_true rfl) ?_
    rfl
set_option maxRecDepth 20000 in
theorem y_again0 {G : kx_G} {d N m : Nat} {h : kx_H} {T : Nat → Int32} {L : Nat} {u : PU} {n C : Nat} {Ac K : Nat → PU} {kf : Nat → Int32} {sd : Int64} {k : Int32} (hk : k < 0 ∨ ¬ k < 2) (hM : kM h m T L u n C Ac K kf sd) (hw : WF u n) (hd : 20 ≤ d) : kx_Fn mX5_again d 0 0 G [.ref m, .int k] N h (some (.int (-1)), N, h) := by
  refine kx_Fn_of rfl (Nat.le_of_ble_eq_true rfl) rfl ?_ (kx_self)
  obtain ⟨o, Kf, f, tr, rp, rk, bk, kp, zk, va, hi9, r1, r2, r3, r4, r5, r6, r7, r8, r9, rC, rL⟩ := id hM
  obtain ⟨m0, m1, m2, m3, m4, m5, m6, m7, m8, m9, m10⟩ := id hi9
  have hn5 := hw.2.1
  obtain ⟨p1, p2, p3, p4, p5, p6, p7⟩ := id r6
  refine ko_aload_n (i := 0) dX5_again_0 rfl rfl ?_
  refine ko_iconst (v := 0) dX5_again_1 (by decide) ?_
  refine ko_put fl_X5_41 dX5_again_2 m0 rfl rfl (Nat.le_of_ble_eq_true rfl) ?_
  refine ko_h (ku_same m0) ?_
  refine ko_iload_n (i := 1) dX5_again_5 rfl rfl ?_
  refine ko_i2l dX5_again_6 ?_
  refine ko_lconst (v := 0) dX5_again_7 (by decide) ?_
  refine ko_lconst (v := 1) dX5_again_8 (by decide) ?_
  refine ko_callSr lk_X5_48 dX5_again_9 (fn_in (d := d - 1) (v := k) (a := 0) (b := 1)) rfl rfl (by omega) (by omega) (by omega) (Nat.le_of_ble_eq_true rfl) ?_
  first | refine ko_ifb_ne (tgt := 17) dX5_again_12 (by decide) (fun c_12 => ?_) (fun c_12 => ?_) | refine ko_if_ne (tgt := 17) dX5_again_12 (by decide) (fun c_12 => ?_) (fun c_12 => ?_)
  · exact absurd c_12 (by rw [in2 hk]; decide)
  · refine ko_iconst (v := (-1)) dX5_again_15 (by decide) ?_
    refine ko_iret dX5_again_16 rfl (Nat.le_of_ble_eq_true rfl) (Nat.le_of_ble_eq_true rfl) ?_
    rfl
set_option maxRecDepth 20000 in
theorem y_again2 {G : kx_G} {d N m : Nat} {h : kx_H} {T : Nat → Int32} {L : Nat} {u : PU} {n C : Nat} {Ac K : Nat → PU} {kf : Nat → Int32} {sd : Int64} {j : Nat} (hj : j < 2) (hz : kf j = 0) (hM : kM h m T L u n C Ac K kf sd) (hw : WF u n) (hd : 20 ≤ d) : kx_Fn mX5_again d 0 0 G [.ref m, .int (nI j)] N h (some (.int (-3)), N, h) := by
  refine kx_Fn_of rfl (Nat.le_of_ble_eq_true rfl) rfl ?_ (kx_self)
  obtain ⟨o, Kf, f, tr, rp, rk, bk, kp, zk, va, hi9, r1, r2, r3, r4, r5, r6, r7, r8, r9, rC, rL⟩ := id hM
  obtain ⟨m0, m1, m2, m3, m4, m5, m6, m7, m8, m9, m10⟩ := id hi9
  have hn5 := hw.2.1
  obtain ⟨p1, p2, p3, p4, p5, p6, p7⟩ := id r6
  refine ko_aload_n (i := 0) dX5_again_0 rfl rfl ?_
  refine ko_iconst (v := 0) dX5_again_1 (by decide) ?_
  refine ko_put fl_X5_41 dX5_again_2 m0 rfl rfl (Nat.le_of_ble_eq_true rfl) ?_
  refine ko_h (ku_same m0) ?_
  refine ko_iload_n (i := 1) dX5_again_5 rfl rfl ?_
  refine ko_i2l dX5_again_6 ?_
  refine ko_lconst (v := 0) dX5_again_7 (by decide) ?_
  refine ko_lconst (v := 1) dX5_again_8 (by decide) ?_
  refine ko_callSr lk_X5_48 dX5_again_9 (fn_in (d := d - 1) (v := nI j) (a := 0) (b := 1)) rfl rfl (by omega) (by omega) (by omega) (Nat.le_of_ble_eq_true rfl) ?_
  first | refine ko_ifb_ne (tgt := 17) dX5_again_12 (by decide) (fun c_12 => ?_) (fun c_12 => ?_) | refine ko_if_ne (tgt := 17) dX5_again_12 (by decide) (fun c_12 => ?_) (fun c_12 => ?_)
  · refine ko_aload_n (i := 0) dX5_again_17 rfl rfl ?_
    refine ko_get fl_X5_34 dX5_again_18 m0 rfl ?_
    refine ko_iload_n (i := 1) dX5_again_21 rfl rfl ?_
    refine ko_zald dX5_again_22 m9 (vp_in_nI hj (by omega)) ?_
    rw [nI_clamp (by omega), r9 j hj, hz]
    refine ko_if_ne (tgt := 29) dX5_again_23 (by decide) (fun c_23 => ?_) (fun c_23 => ?_)
    · exact absurd rfl c_23
    · refine ko_bipush (v := (-3)) dX5_again_26 (by decide) ?_
      refine ko_iret dX5_again_28 rfl (Nat.le_of_ble_eq_true rfl) (Nat.le_of_ble_eq_true rfl) ?_
      rfl
  · exact absurd c_12 (by rw [in2T j hj]; decide)
set_option maxRecDepth 20000 in
theorem y_keep1 {G : kx_G} {d N m : Nat} {h : kx_H} {T : Nat → Int32} {L : Nat} {u : PU} {n C : Nat} {Ac K : Nat → PU} {kf : Nat → Int32} {sd : Int64} {j : Nat} (hj : j < 2)  (hM : kM h m T L u n C Ac K kf sd) (hw : WF u n) (hd : 20 ≤ d) : ∃ g, kx_Fn mX5_keep d 0 0 G [.ref m, .int (nI j)] N h (some (.int (pWk u)), N, g) ∧ kM g m T L u n C Ac (fun i => if i = j then u else K i) (upd kf j 1) sd ∧ kFr h g m 10 := by
  obtain ⟨o, Kf, f, tr, rp, rk, bk, kp, zk, va, hi9, r1, r2, r3, r4, r5, r6, r7, r8, r9, rC, rL⟩ := id hM
  obtain ⟨m0, m1, m2, m3, m4, m5, m6, m7, m8, m9, m10⟩ := id hi9
  have hn5 := hw.2.1
  obtain ⟨p1, p2, p3, p4, p5, p6, p7⟩ := id r6
  have fr : kFr h (kx_up (kx_up h (m + 9) (kz (upd zk j 1))) (m + 8) (ka 86 (cpB kp f (43 * j) 43))) m 10 := (kFr.up (by omega)).tr (kFr.up (by omega))
  refine ⟨(kx_up (kx_up h (m + 9) (kz (upd zk j 1))) (m + 8) (ka 86 (cpB kp f (43 * j) 43))), kx_Fn_of rfl (Nat.le_of_ble_eq_true rfl) rfl ?_ (kM_dom hM fr), ⟨o, Kf, f, tr, rp, rk, bk, _, _, va, kMi_kp (kMi_zk hi9 _) _, r1, r2, r3, r4, r5, r6, r7, fun i hi => (by
      show pgR _ (if i = j then u else K i)
      by_cases h1 : i = j
      · subst h1; rw [if_pos rfl]; exact pgR_cong (fun k hk => cpB_in hk) r6
      · rw [if_neg h1]; exact pgR_cong (fun k hk => cpB_out (by omega)) (r8 i hi)), fun i hi => (by
      by_cases h1 : i = j
      · subst h1; rw [pk_us, pk_us]
      · rw [pk_un h1, pk_un h1]; exact r9 i hi), rC, rL⟩, fr⟩
  · have LOOP : ∀ (k i : Nat), k + i = 43 → kx_Ok mX5_keep d 0 0 G 0 0 26 [(0, .ref m), (1, .int (nI j)), (2, .int (nI i))] [] N (kx_up (kx_up h (m + 9) (kz (upd zk j 1))) (m + 8) (ka 86 (cpB kp f (43 * j) i))) (some (.int (pWk u)), N, (kx_up (kx_up h (m + 9) (kz (upd zk j 1))) (m + 8) (ka 86 (cpB kp f (43 * j) 43)))) := by
      intro k
      induction k with
      | zero =>
        intro i hi
        obtain rfl : i = 43 := by omega
        refine ko_iload_n (i := 2) dX5_keep_26 rfl rfl ?_
        refine ko_bipush (v := 43) dX5_keep_27 (by decide) ?_
        refine ko_icmp_ge (tgt := 55) dX5_keep_29 (by decide) (fun c_29 => ?_) (fun c_29 => ?_)
        · refine ko_aload_n (i := 0) dX5_keep_55 rfl rfl ?_
          refine ko_get fl_X5_22 dX5_keep_56 ((ku_n (by omega)).trans ((ku_n (by omega)).trans m0)) rfl ?_
          refine ko_bipush (v := 42) dX5_keep_59 (by decide) ?_
          refine ko_iald dX5_keep_61 ((ku_n (by omega)).trans ((ku_n (by omega)).trans m5)) (in15 (i := 42) (by omega)) ?_
          refine ko_st (st' := [.int (f 42)]) rfl ?_
          rw [p7]
          refine ko_iret dX5_keep_62 rfl (Nat.le_of_ble_eq_true rfl) (Nat.le_of_ble_eq_true rfl) ?_
          rfl
        · exact absurd (show (43 : Int32) ≤ nI 43 by decide) c_29
      | succ k ih =>
        intro i hi
        refine ko_iload_n (i := 2) dX5_keep_26 rfl rfl ?_
        refine ko_bipush (v := 43) dX5_keep_27 (by decide) ?_
        refine ko_icmp_ge (tgt := 55) dX5_keep_29 (by decide) (fun c_29 => ?_) (fun c_29 => ?_)
        · exact absurd (show nI 43 ≤ nI i from c_29) (nI_ge (by omega) (by omega))
        · refine ko_aload_n (i := 0) dX5_keep_32 rfl rfl ?_
          refine ko_get fl_X5_31 dX5_keep_33 ((ku_n (by omega)).trans ((ku_n (by omega)).trans m0)) rfl ?_
          refine ko_bipush (v := 43) dX5_keep_36 (by decide) ?_
          refine ko_iload_n (i := 1) dX5_keep_38 rfl rfl ?_
          refine ko_imul dX5_keep_39 ?_
          rw [show (43 : Int32) * nI j = nI (43 * j) from pk_mul 43 j]
          refine ko_iload_n (i := 2) dX5_keep_40 rfl rfl ?_
          refine ko_iadd dX5_keep_41 ?_
          rw [nI_add]
          refine ko_aload_n (i := 0) dX5_keep_42 rfl rfl ?_
          refine ko_get fl_X5_22 dX5_keep_43 ((ku_n (by omega)).trans ((ku_n (by omega)).trans m0)) rfl ?_
          refine ko_iload_n (i := 2) dX5_keep_46 rfl rfl ?_
          refine ko_iald dX5_keep_47 ((ku_n (by omega)).trans ((ku_n (by omega)).trans m5)) (in15 (by omega)) ?_
          rw [nI_clamp (by omega)]
          refine ko_iast dX5_keep_48 ku_s (vp_in_nI (by omega) (by omega)) ?_
          rw [nI_clamp (by omega), cpB_s]
          refine ko_h (ku_ku _ _ _ _) ?_
          refine ko_inc1 (i := 2) (lv' := [(0, _), (1, _), (2, _)]) dX5_keep_49 rfl (by decide) rfl rfl rfl ?_
          refine ko_goto (tgt := 26) dX5_keep_52 (by decide) ?_
          exact ko_lv (by simp [nI_succ]) (ih (i + 1) (by omega))
    refine ko_aload_n (i := 0) dX5_keep_0 rfl rfl ?_
    refine ko_iconst (v := 0) dX5_keep_1 (by decide) ?_
    refine ko_put fl_X5_41 dX5_keep_2 m0 rfl rfl (Nat.le_of_ble_eq_true rfl) ?_
    refine ko_h (ku_same m0) ?_
    refine ko_iload_n (i := 1) dX5_keep_5 rfl rfl ?_
    refine ko_i2l dX5_keep_6 ?_
    refine ko_lconst (v := 0) dX5_keep_7 (by decide) ?_
    refine ko_lconst (v := 1) dX5_keep_8 (by decide) ?_
    refine ko_callSr lk_X5_48 dX5_keep_9 (fn_in (d := d - 1) (v := nI j) (a := 0) (b := 1)) rfl rfl (by omega) (by omega) (by omega) (Nat.le_of_ble_eq_true rfl) ?_
    first | refine ko_ifb_ne (tgt := 17) dX5_keep_12 (by decide) (fun c_12 => ?_) (fun c_12 => ?_) | refine ko_if_ne (tgt := 17) dX5_keep_12 (by decide) (fun c_12 => ?_) (fun c_12 => ?_)
    · refine ko_aload_n (i := 0) dX5_keep_17 rfl rfl ?_
      refine ko_get fl_X5_34 dX5_keep_18 m0 rfl ?_
      refine ko_iload_n (i := 1) dX5_keep_21 rfl rfl ?_
      refine ko_iconst (v := 1) dX5_keep_22 (by decide) ?_
      refine ko_zast dX5_keep_23 m9 (vp_in_nI hj (by omega)) ?_
      rw [nI_clamp (by omega), nar1]
      refine ko_iconst (v := 0) dX5_keep_24 (by decide) ?_
      refine ko_istore_n (i := 2) (lv' := [(0, _), (1, _), (2, _)]) dX5_keep_25 rfl (by decide) rfl rfl rfl ?_
      refine ko_h (h' := kx_up (kx_up h (m + 9) (kz (upd zk j 1))) (m + 8) (ka 86 (cpB kp f (43 * j) 0))) ?_ (LOOP 43 0 rfl)
      rw [cpB_0]
      exact (ku_same ((ku_n (by omega)).trans m8)).symm
    · exact absurd c_12 (by rw [in2T j hj]; decide)
set_option maxRecDepth 20000 in
theorem y_again1 {G : kx_G} {d N m : Nat} {h : kx_H} {T : Nat → Int32} {L : Nat} {u : PU} {n C : Nat} {Ac K : Nat → PU} {kf : Nat → Int32} {sd : Int64} {j : Nat} (hj : j < 2) (hz : ¬ kf j = 0) (hk9 : pKd (K j) = pKd u)  (hM : kM h m T L u n C Ac K kf sd) (hw : WF u n) (hd : 20 ≤ d) : ∃ g, kx_Fn mX5_again d 0 0 G [.ref m, .int (nI j)] N h (some (.int (pWk (K j))), N, g) ∧ kM g m T L (K j) n 0 Ac K kf sd ∧ kFr h g m 10 := by
  obtain ⟨o, Kf, f, tr, rp, rk, bk, kp, zk, va, hi9, r1, r2, r3, r4, r5, r6, r7, r8, r9, rC, rL⟩ := id hM
  obtain ⟨m0, m1, m2, m3, m4, m5, m6, m7, m8, m9, m10⟩ := id hi9
  have hn5 := hw.2.1
  obtain ⟨p1, p2, p3, p4, p5, p6, p7⟩ := id r6
  have eR : pgR (cpF (fun k => kp (43 * j + k)) f 43) (K j) := pgR_cong (fun k hk => if_pos hk) (r8 j hj)
  have fr : kFr h (kx_up (kx_up h (m + 5) (ka 43 (cpF (fun k => kp (43 * j + k)) f 43))) m (kmo m (mTs o, mPl o, mN o, mRp o, 0, mSd o, mSm o, mSo o, mSw o, mRm o, mRf o))) m 10 := (kFr.up (by omega)).tr (kFr.up (by omega))
  refine ⟨(kx_up (kx_up h (m + 5) (ka 43 (cpF (fun k => kp (43 * j + k)) f 43))) m (kmo m (mTs o, mPl o, mN o, mRp o, 0, mSd o, mSm o, mSo o, mSw o, mRm o, mRf o))), kx_Fn_of rfl (Nat.le_of_ble_eq_true rfl) rfl ?_ (kM_dom hM fr), ⟨_, Kf, _, tr, rp, rk, bk, kp, zk, va, kMi_o (kMi_f hi9 _) _, r1, r2, rfl, r4, by rw [hk9]; exact r5, eR, fun i hi => absurd hi (Nat.not_lt_zero i), r8, r9, by omega, rL⟩, fr⟩
  · have LOOP : ∀ (k i : Nat), k + i = 43 → kx_Ok mX5_again d 0 0 G 0 0 31 [(0, .ref m), (1, .int (nI j)), (2, .int (nI i))] [] N (kx_up h (m + 5) (ka 43 (cpF (fun k => kp (43 * j + k)) f i))) (some (.int (pWk (K j))), N, (kx_up (kx_up h (m + 5) (ka 43 (cpF (fun k => kp (43 * j + k)) f 43))) m (kmo m (mTs o, mPl o, mN o, mRp o, 0, mSd o, mSm o, mSo o, mSw o, mRm o, mRf o)))) := by
      intro k
      induction k with
      | zero =>
        intro i hi
        obtain rfl : i = 43 := by omega
        refine ko_iload_n (i := 2) dX5_again_31 rfl rfl ?_
        refine ko_bipush (v := 43) dX5_again_32 (by decide) ?_
        refine ko_icmp_ge (tgt := 60) dX5_again_34 (by decide) (fun c_34 => ?_) (fun c_34 => ?_)
        · refine ko_aload_n (i := 0) dX5_again_60 rfl rfl ?_
          refine ko_iconst (v := 0) dX5_again_61 (by decide) ?_
          refine ko_put fl_X5_90 dX5_again_62 ((ku_n (by omega)).trans m0) rfl rfl (Nat.le_of_ble_eq_true rfl) ?_
          refine ko_aload_n (i := 0) dX5_again_65 rfl rfl ?_
          refine ko_get fl_X5_22 dX5_again_66 ku_s rfl ?_
          refine ko_bipush (v := 42) dX5_again_69 (by decide) ?_
          refine ko_iald dX5_again_71 ((ku_n (by omega)).trans ku_s) (in15 (i := 42) (by omega)) ?_
          refine ko_st (st' := [.int (cpF (fun k => kp (43 * j + k)) f 43 42)]) rfl ?_
          rw [eR.2.2.2.2.2.2]
          refine ko_iret dX5_again_72 rfl (Nat.le_of_ble_eq_true rfl) (Nat.le_of_ble_eq_true rfl) ?_
          rfl
        · exact absurd (show (43 : Int32) ≤ nI 43 by decide) c_34
      | succ k ih =>
        intro i hi
        refine ko_iload_n (i := 2) dX5_again_31 rfl rfl ?_
        refine ko_bipush (v := 43) dX5_again_32 (by decide) ?_
        refine ko_icmp_ge (tgt := 60) dX5_again_34 (by decide) (fun c_34 => ?_) (fun c_34 => ?_)
        · exact absurd (show nI 43 ≤ nI i from c_34) (nI_ge (by omega) (by omega))
        · refine ko_aload_n (i := 0) dX5_again_37 rfl rfl ?_
          refine ko_get fl_X5_22 dX5_again_38 ((ku_n (by omega)).trans m0) rfl ?_
          refine ko_iload_n (i := 2) dX5_again_41 rfl rfl ?_
          refine ko_aload_n (i := 0) dX5_again_42 rfl rfl ?_
          refine ko_get fl_X5_31 dX5_again_43 ((ku_n (by omega)).trans m0) rfl ?_
          refine ko_bipush (v := 43) dX5_again_46 (by decide) ?_
          refine ko_iload_n (i := 1) dX5_again_48 rfl rfl ?_
          refine ko_imul dX5_again_49 ?_
          rw [show (43 : Int32) * nI j = nI (43 * j) from pk_mul 43 j]
          refine ko_iload_n (i := 2) dX5_again_50 rfl rfl ?_
          refine ko_iadd dX5_again_51 ?_
          rw [nI_add]
          refine ko_iald dX5_again_52 ((ku_n (by omega)).trans m8) (vp_in_nI (by omega) (by omega)) ?_
          rw [nI_clamp (by omega)]
          refine ko_iast dX5_again_53 ku_s (in15 (by omega)) ?_
          rw [nI_clamp (by omega), show upd (cpF (fun k => kp (43 * j + k)) f i) i (kp (43 * j + i)) = cpF (fun k => kp (43 * j + k)) f (i + 1) from cp_s _ _ _]
          refine ko_h (ku_ku _ _ _ _) ?_
          refine ko_inc1 (i := 2) (lv' := [(0, _), (1, _), (2, _)]) dX5_again_54 rfl (by decide) rfl rfl rfl ?_
          refine ko_goto (tgt := 31) dX5_again_57 (by decide) ?_
          exact ko_lv (by simp [nI_succ]) (ih (i + 1) (by omega))
    refine ko_aload_n (i := 0) dX5_again_0 rfl rfl ?_
    refine ko_iconst (v := 0) dX5_again_1 (by decide) ?_
    refine ko_put fl_X5_41 dX5_again_2 m0 rfl rfl (Nat.le_of_ble_eq_true rfl) ?_
    refine ko_h (ku_same m0) ?_
    refine ko_iload_n (i := 1) dX5_again_5 rfl rfl ?_
    refine ko_i2l dX5_again_6 ?_
    refine ko_lconst (v := 0) dX5_again_7 (by decide) ?_
    refine ko_lconst (v := 1) dX5_again_8 (by decide) ?_
    refine ko_callSr lk_X5_48 dX5_again_9 (fn_in (d := d - 1) (v := nI j) (a := 0) (b := 1)) rfl rfl (by omega) (by omega) (by omega) (Nat.le_of_ble_eq_true rfl) ?_
    first | refine ko_ifb_ne (tgt := 17) dX5_again_12 (by decide) (fun c_12 => ?_) (fun c_12 => ?_) | refine ko_if_ne (tgt := 17) dX5_again_12 (by decide) (fun c_12 => ?_) (fun c_12 => ?_)
    · refine ko_aload_n (i := 0) dX5_again_17 rfl rfl ?_
      refine ko_get fl_X5_34 dX5_again_18 m0 rfl ?_
      refine ko_iload_n (i := 1) dX5_again_21 rfl rfl ?_
      refine ko_zald dX5_again_22 m9 (vp_in_nI hj (by omega)) ?_
      rw [nI_clamp (by omega), r9 j hj]
      refine ko_if_ne (tgt := 29) dX5_again_23 (by decide) (fun c_23 => ?_) (fun c_23 => ?_)
      · refine ko_iconst (v := 0) dX5_again_29 (by decide) ?_
        refine ko_istore_n (i := 2) (lv' := [(0, _), (1, _), (2, _)]) dX5_again_30 rfl (by decide) rfl rfl rfl ?_
        exact ko_h (by rw [cp_0]; exact (ku_same m5).symm) (LOOP 43 0 rfl)
      · exact absurd c_23 hz
    · exact absurd c_12 (by rw [in2T j hj]; decide)
set_option maxRecDepth 20000 in
theorem y_net {G : kx_G} {d N m : Nat} {h : kx_H} {T : Nat → Int32} {L : Nat} {u : PU} {n C : Nat} {Ac K : Nat → PU} {kf : Nat → Int32} {sd : Int64} {p : Int32} (hM : kM h m T L u n C Ac K kf sd) (hw : WF u n) (hd : 20 ≤ d) : kx_Fn mX5_net d 0 0 G [.ref m, .int p] N h (some (.int (if hasI (pN u) p = false then -1 else neI u p n)), N, h) := by
  refine kx_Fn_of rfl (Nat.le_of_ble_eq_true rfl) rfl ?_ (kx_self)
  obtain ⟨o, Kf, f, tr, rp, rk, bk, kp, zk, va, hi9, r1, r2, r3, r4, r5, r6, r7, r8, r9, rC, rL⟩ := id hM
  obtain ⟨m0, m1, m2, m3, m4, m5, m6, m7, m8, m9, m10⟩ := id hi9
  have hn5 := hw.2.1
  obtain ⟨p1, p2, p3, p4, p5, p6, p7⟩ := id r6
  have LP : ∀ j, j < n → kx_Ok mX5_net d 0 0 G 0 0 20 [(0, .ref m), (1, .int (nI j)), (2, .int 100), (3, .int 0)] [] N h (some (.int (neI u (nI j) n)), N, h) := by
    intro j hj
    have e1 : ∀ i, i < n → dbI u (nI i) (nI j) = pOw u (i * 5 + j) := fun i hi => by
      unfold dbI
      rw [if_pos (hasW hw hi), if_pos (hasW hw hj), (in25 (hasW hw hi) (hasW hw hj)).2, nI_clamp (by omega), nI_clamp (by omega)]
    have e2 : ∀ i, i < n → dbI u (nI j) (nI i) = pOw u (j * 5 + i) := fun i hi => by
      unfold dbI
      rw [if_pos (hasW hw hi), if_pos (hasW hw hj), (in25 (hasW hw hj) (hasW hw hi)).2, nI_clamp (by omega), nI_clamp (by omega)]
    have LOOP : ∀ (k i : Nat), k + i = n → kx_Ok mX5_net d 0 0 G 0 0 20 [(0, .ref m), (1, .int (nI j)), (2, .int (neI u (nI j) i)), (3, .int (nI i))] [] N h (some (.int (neI u (nI j) n)), N, h) := by
      intro k
      induction k with
      | zero =>
        intro i hi
        obtain rfl : n = i := by omega
        refine ko_iload_n (i := 3) dX5_net_20 rfl rfl ?_
        refine ko_aload_n (i := 0) dX5_net_21 rfl rfl ?_
        refine ko_get fl_X5_45 dX5_net_22 m0 rfl ?_
        refine ko_icmp_ge (tgt := 64) dX5_net_25 (by decide) (fun c_25 => ?_) (fun c_25 => ?_)
        · refine ko_iload_n (i := 2) dX5_net_64 rfl rfl ?_
          refine ko_iret dX5_net_65 rfl (Nat.le_of_ble_eq_true rfl) (Nat.le_of_ble_eq_true rfl) ?_
          rfl
        · exact absurd (show mN o ≤ nI n by rw [r2]; exact nI_le (Nat.le_refl _) (by omega)) c_25
      | succ k ih =>
        intro i hi
        refine ko_iload_n (i := 3) dX5_net_20 rfl rfl ?_
        refine ko_aload_n (i := 0) dX5_net_21 rfl rfl ?_
        refine ko_get fl_X5_45 dX5_net_22 m0 rfl ?_
        refine ko_icmp_ge (tgt := 64) dX5_net_25 (by decide) (fun c_25 => ?_) (fun c_25 => ?_)
        · exact absurd (show nI n ≤ nI i from by rw [← r2]; exact c_25) (nI_ge (by omega) (by omega))
        · refine ko_iload_n (i := 2) dX5_net_28 rfl rfl ?_
          refine ko_aload_n (i := 0) dX5_net_29 rfl rfl ?_
          refine ko_get fl_X5_22 dX5_net_30 m0 rfl ?_
          refine ko_bipush (v := 16) dX5_net_33 (by decide) ?_
          refine ko_iconst (v := 5) dX5_net_35 (by decide) ?_
          refine ko_iload_n (i := 3) dX5_net_36 rfl rfl ?_
          refine ko_imul dX5_net_37 ?_
          refine ko_iadd dX5_net_38 ?_
          refine ko_iload_n (i := 1) dX5_net_39 rfl rfl ?_
          refine ko_iadd dX5_net_40 ?_
          rw [a16]
          refine ko_iald dX5_net_41 m5 (in15 (by omega)) ?_
          rw [nI_clamp (by omega), show 16 + 5 * i + j = 16 + (i * 5 + j) by omega, p5 _ (by omega), ← e1 i (by omega)]
          refine ko_aload_n (i := 0) dX5_net_42 rfl rfl ?_
          refine ko_get fl_X5_22 dX5_net_43 m0 rfl ?_
          refine ko_bipush (v := 16) dX5_net_46 (by decide) ?_
          refine ko_iconst (v := 5) dX5_net_48 (by decide) ?_
          refine ko_iload_n (i := 1) dX5_net_49 rfl rfl ?_
          refine ko_imul dX5_net_50 ?_
          refine ko_iadd dX5_net_51 ?_
          refine ko_iload_n (i := 3) dX5_net_52 rfl rfl ?_
          refine ko_iadd dX5_net_53 ?_
          rw [a16]
          refine ko_iald dX5_net_54 m5 (in15 (by omega)) ?_
          rw [nI_clamp (by omega), show 16 + 5 * j + i = 16 + (j * 5 + i) by omega, p5 _ (by omega), ← e2 i (by omega)]
          refine ko_isub dX5_net_55 ?_
          refine ko_iadd dX5_net_56 ?_
          refine ko_istore_n (i := 2) (lv' := [(0, _), (1, _), (2, _), (3, _)]) dX5_net_57 rfl (by decide) rfl rfl rfl ?_
          refine ko_inc1 (i := 3) (lv' := [(0, _), (1, _), (2, _), (3, _)]) dX5_net_58 rfl (by decide) rfl rfl rfl ?_
          refine ko_goto (tgt := 20) dX5_net_61 (by decide) ?_
          exact ko_lv (by simp [neI, nI_succ]) (ih (i + 1) (by omega))
    exact LOOP n 0 (by omega)
  refine ko_aload_n (i := 0) dX5_net_0 rfl rfl ?_
  refine ko_iconst (v := 0) dX5_net_1 (by decide) ?_
  refine ko_put fl_X5_41 dX5_net_2 m0 rfl rfl (Nat.le_of_ble_eq_true rfl) ?_
  refine ko_h (ku_same m0) ?_
  refine ko_aload_n (i := 0) dX5_net_5 rfl rfl ?_
  refine ko_iload_n (i := 1) dX5_net_6 rfl rfl ?_
  refine ko_callVr lk_X5_108 dX5_net_7 (fn_noPerson (d := d - 1) m0 r2 hn5 (by omega)) rfl rfl m0 rfl rfl (by omega) (by omega) (by omega) (Nat.le_of_ble_eq_true rfl) ?_
  first | refine ko_ifb_eq (tgt := 15) dX5_net_10 (by decide) (fun c_10 => ?_) (fun c_10 => ?_) | refine ko_if_eq (tgt := 15) dX5_net_10 (by decide) (fun c_10 => ?_) (fun c_10 => ?_)
  · have h_10 : hasI (nI n) p = true := by
      rw [Bool.not_eq_false'] at c_10
      exact c_10
    obtain ⟨i, hi, rfl⟩ := has_of hn5 h_10
    refine ko_bipush (v := 100) dX5_net_15 (by decide) ?_
    refine ko_istore_n (i := 2) (lv' := [(0, _), (1, _), (2, _)]) dX5_net_17 rfl (by decide) rfl rfl rfl ?_
    refine ko_iconst (v := 0) dX5_net_18 (by decide) ?_
    refine ko_istore_n (i := 3) (lv' := [(0, _), (1, _), (2, _), (3, _)]) dX5_net_19 rfl (by decide) rfl rfl rfl ?_
    rw [if_neg (by rw [hasW hw hi]; decide)]
    exact LP i hi
  · have h_10 : hasI (nI n) p = false := by
      rw [Bool.not_eq_true'] at c_10
      exact c_10
    refine ko_iconst (v := (-1)) dX5_net_13 (by decide) ?_
    refine ko_iret dX5_net_14 rfl (Nat.le_of_ble_eq_true rfl) (Nat.le_of_ble_eq_true rfl) ?_
    rw [hw.1, h_10]
    rfl
set_option maxRecDepth 20000 in
theorem y_whose {G : kx_G} {d N m : Nat} {h : kx_H} {T : Nat → Int32} {L : Nat} {u : PU} {n C : Nat} {Ac K : Nat → PU} {kf : Nat → Int32} {sd : Int64} {w : Int32} (hM : kM h m T L u n C Ac K kf sd) (hw : WF u n) (hd : 20 ≤ d) : kx_Fn mX5_whose d 0 0 G [.ref m, .int w] N h (some (.int (if w < 1 then -2 else if ¬ w ≤ 9 then -2 else whI u w n)), N, h) := by
  refine kx_Fn_of rfl (Nat.le_of_ble_eq_true rfl) rfl ?_ (kx_self)
  obtain ⟨o, Kf, f, tr, rp, rk, bk, kp, zk, va, hi9, r1, r2, r3, r4, r5, r6, r7, r8, r9, rC, rL⟩ := id hM
  obtain ⟨m0, m1, m2, m3, m4, m5, m6, m7, m8, m9, m10⟩ := id hi9
  have hn5 := hw.2.1
  obtain ⟨p1, p2, p3, p4, p5, p6, p7⟩ := id r6
  have LOOP : ∀ (k i : Nat), k + i = n → kx_Ok mX5_whose d 0 0 G 0 0 24 [(0, .ref m), (1, .int w), (2, .int (whI u w i)), (3, .int (nI i))] [] N h (some (.int (whI u w n)), N, h) := by
    intro k
    induction k with
    | zero =>
      intro i hi
      obtain rfl : n = i := by omega
      refine ko_iload_n (i := 3) dX5_whose_24 rfl rfl ?_
      refine ko_aload_n (i := 0) dX5_whose_25 rfl rfl ?_
      refine ko_get fl_X5_45 dX5_whose_26 m0 rfl ?_
      refine ko_icmp_ge (tgt := 61) dX5_whose_29 (by decide) (fun c_29 => ?_) (fun c_29 => ?_)
      · refine ko_iload_n (i := 2) dX5_whose_61 rfl rfl ?_
        refine ko_iret dX5_whose_62 rfl (Nat.le_of_ble_eq_true rfl) (Nat.le_of_ble_eq_true rfl) ?_
        rfl
      · exact absurd (show mN o ≤ nI n by rw [r2]; exact nI_le (Nat.le_refl _) (by omega)) c_29
    | succ k ih =>
      intro i hi
      refine ko_iload_n (i := 3) dX5_whose_24 rfl rfl ?_
      refine ko_aload_n (i := 0) dX5_whose_25 rfl rfl ?_
      refine ko_get fl_X5_45 dX5_whose_26 m0 rfl ?_
      refine ko_icmp_ge (tgt := 61) dX5_whose_29 (by decide) (fun c_29 => ?_) (fun c_29 => ?_)
      · exact absurd (show nI n ≤ nI i from by rw [← r2]; exact c_29) (nI_ge (by omega) (by omega))
      · refine ko_iload_n (i := 2) dX5_whose_32 rfl rfl ?_
        refine ko_aload_n (i := 0) dX5_whose_33 rfl rfl ?_
        refine ko_aload_n (i := 0) dX5_whose_34 rfl rfl ?_
        refine ko_get fl_X5_22 dX5_whose_35 m0 rfl ?_
        refine ko_iload_n (i := 3) dX5_whose_38 rfl rfl ?_
        refine ko_callVr lk_X5_97 dX5_whose_39 (fn_mounces (d := d - 1) m0 m2 r5 m5 r6 hw (show i < n by omega)) rfl rfl m0 rfl rfl (by omega) (by omega) (by omega) (Nat.le_of_ble_eq_true rfl) ?_
        refine ko_iload_n (i := 1) dX5_whose_42 rfl rfl ?_
        refine ko_icmp_ne (tgt := 52) dX5_whose_43 (by decide) (fun c_43 => ?_) (fun c_43 => ?_)
        · refine ko_iconst (v := 0) dX5_whose_52 (by decide) ?_
          refine ko_ior dX5_whose_53 ?_
          refine ko_istore_n (i := 2) (lv' := [(0, _), (1, _), (2, _), (3, _)]) dX5_whose_54 rfl (by decide) rfl rfl rfl ?_
          refine ko_inc1 (i := 3) (lv' := [(0, _), (1, _), (2, _), (3, _)]) dX5_whose_55 rfl (by decide) rfl rfl rfl ?_
          refine ko_goto (tgt := 24) dX5_whose_58 (by decide) ?_
          exact ko_lv (by simp [whI, nI_succ, c_29, c_43]) (ih (i + 1) (by omega))
        · refine ko_iconst (v := 1) dX5_whose_46 (by decide) ?_
          refine ko_iload_n (i := 3) dX5_whose_47 rfl rfl ?_
          refine ko_ishl dX5_whose_48 ?_
          refine ko_goto (tgt := 53) dX5_whose_49 (by decide) ?_
          refine ko_ior dX5_whose_53 ?_
          refine ko_istore_n (i := 2) (lv' := [(0, _), (1, _), (2, _), (3, _)]) dX5_whose_54 rfl (by decide) rfl rfl rfl ?_
          refine ko_inc1 (i := 3) (lv' := [(0, _), (1, _), (2, _), (3, _)]) dX5_whose_55 rfl (by decide) rfl rfl rfl ?_
          refine ko_goto (tgt := 24) dX5_whose_58 (by decide) ?_
          exact ko_lv (by simp [whI, nI_succ, c_29, c_43]) (ih (i + 1) (by omega))
  refine ko_aload_n (i := 0) dX5_whose_0 rfl rfl ?_
  refine ko_iconst (v := 0) dX5_whose_1 (by decide) ?_
  refine ko_put fl_X5_41 dX5_whose_2 m0 rfl rfl (Nat.le_of_ble_eq_true rfl) ?_
  refine ko_h (ku_same m0) ?_
  refine ko_iload_n (i := 1) dX5_whose_5 rfl rfl ?_
  refine ko_i2l dX5_whose_6 ?_
  refine ko_lconst (v := 1) dX5_whose_7 (by decide) ?_
  refine ko_ldc2 dX5_whose_8 fc_X5_168 ?_
  refine ko_callSr lk_X5_48 dX5_whose_11 (fn_in (d := d - 1) (v := w) (a := 1) (b := 9)) rfl rfl (by omega) (by omega) (by omega) (Nat.le_of_ble_eq_true rfl) ?_
  first | refine ko_ifb_ne (tgt := 20) dX5_whose_14 (by decide) (fun c_14 => ?_) (fun c_14 => ?_) | refine ko_if_ne (tgt := 20) dX5_whose_14 (by decide) (fun c_14 => ?_) (fun c_14 => ?_)
  · refine ko_iconst (v := 0) dX5_whose_20 (by decide) ?_
    refine ko_istore_n (i := 2) (lv' := [(0, _), (1, _), (2, _)]) dX5_whose_21 rfl (by decide) rfl rfl rfl ?_
    refine ko_iconst (v := 0) dX5_whose_22 (by decide) ?_
    refine ko_istore_n (i := 3) (lv' := [(0, _), (1, _), (2, _), (3, _)]) dX5_whose_23 rfl (by decide) rfl rfl rfl ?_
    rw [inR] at c_14
    simp only [Bool.and_eq_true, Bool.not_eq_true', decide_eq_false_iff_not, decide_eq_true_eq] at c_14
    rw [if_neg c_14.1, if_neg (fun z => z c_14.2)]
    exact LOOP n 0 (by omega)
  · refine ko_bipush (v := (-2)) dX5_whose_17 (by decide) ?_
    refine ko_iret dX5_whose_19 rfl (Nat.le_of_ble_eq_true rfl) (Nat.le_of_ble_eq_true rfl) ?_
    rw [inR] at c_14
    by_cases h1 : w < 1
    · rw [if_pos h1]
    · rw [if_neg h1]
      by_cases h2 : w ≤ 9
      · simp [h1, h2] at c_14
      · rw [if_pos h2]
set_option maxRecDepth 20000 in
theorem y_write0 {G : kx_G} {d N m : Nat} {h : kx_H} {T : Nat → Int32} {L : Nat} {u : PU} {n C : Nat} {Ac K : Nat → PU} {kf : Nat → Int32} {sd : Int64} {c : Int32} (hc : c < 0 ∨ ¬ c ≤ 255) (hM : kM h m T L u n C Ac K kf sd) (hw : WF u n) (hd : 20 ≤ d) : kx_Fn mX5_write d 0 0 G [.ref m, .int c] N h (some (.int (-2)), N, h) := by
  refine kx_Fn_of rfl (Nat.le_of_ble_eq_true rfl) rfl ?_ (kx_self)
  obtain ⟨o, Kf, f, tr, rp, rk, bk, kp, zk, va, hi9, r1, r2, r3, r4, r5, r6, r7, r8, r9, rC, rL⟩ := id hM
  obtain ⟨m0, m1, m2, m3, m4, m5, m6, m7, m8, m9, m10⟩ := id hi9
  have hn5 := hw.2.1
  obtain ⟨p1, p2, p3, p4, p5, p6, p7⟩ := id r6
  have hr : inI c 0 255 = false := by
    rw [inR]
    rcases hc with hc | hc
    · simp [hc]
    · simp [hc]
  refine ko_aload_n (i := 0) dX5_write_0 rfl rfl ?_
  refine ko_iconst (v := 0) dX5_write_1 (by decide) ?_
  refine ko_put fl_X5_41 dX5_write_2 m0 rfl rfl (Nat.le_of_ble_eq_true rfl) ?_
  refine ko_h (ku_same m0) ?_
  refine ko_iload_n (i := 1) dX5_write_5 rfl rfl ?_
  refine ko_i2l dX5_write_6 ?_
  refine ko_lconst (v := 0) dX5_write_7 (by decide) ?_
  refine ko_ldc2 dX5_write_8 fc_X5_52 ?_
  refine ko_callSr lk_X5_48 dX5_write_11 (fn_in (d := d - 1) (v := c) (a := 0) (b := 255)) rfl rfl (by omega) (by omega) (by omega) (Nat.le_of_ble_eq_true rfl) ?_
  first | refine ko_ifb_ne (tgt := 20) dX5_write_14 (by decide) (fun c_14 => ?_) (fun c_14 => ?_) | refine ko_if_ne (tgt := 20) dX5_write_14 (by decide) (fun c_14 => ?_) (fun c_14 => ?_)
  · exact absurd c_14 (by rw [hr]; decide)
  · refine ko_bipush (v := (-2)) dX5_write_17 (by decide) ?_
    refine ko_iret dX5_write_19 rfl (Nat.le_of_ble_eq_true rfl) (Nat.le_of_ble_eq_true rfl) ?_
    rfl
set_option maxRecDepth 20000 in
theorem y_write2 {G : kx_G} {d N m : Nat} {h : kx_H} {T : Nat → Int32} {L : Nat} {u : PU} {n C : Nat} {Ac K : Nat → PU} {kf : Nat → Int32} {sd : Int64} {c : Int32} (hc : ¬ c < 0 ∧ c ≤ 255) (h48 : L = 48) (hM : kM h m T L u n C Ac K kf sd) (hw : WF u n) (hd : 20 ≤ d) : kx_Fn mX5_write d 0 0 G [.ref m, .int c] N h (some (.int (-4)), N, h) := by
  refine kx_Fn_of rfl (Nat.le_of_ble_eq_true rfl) rfl ?_ (kx_self)
  obtain ⟨o, Kf, f, tr, rp, rk, bk, kp, zk, va, hi9, r1, r2, r3, r4, r5, r6, r7, r8, r9, rC, rL⟩ := id hM
  obtain ⟨m0, m1, m2, m3, m4, m5, m6, m7, m8, m9, m10⟩ := id hi9
  have hn5 := hw.2.1
  obtain ⟨p1, p2, p3, p4, p5, p6, p7⟩ := id r6
  have hr : inI c 0 255 = true := by
    rw [inR]
    simp [hc.1, hc.2]
  refine ko_aload_n (i := 0) dX5_write_0 rfl rfl ?_
  refine ko_iconst (v := 0) dX5_write_1 (by decide) ?_
  refine ko_put fl_X5_41 dX5_write_2 m0 rfl rfl (Nat.le_of_ble_eq_true rfl) ?_
  refine ko_h (ku_same m0) ?_
  refine ko_iload_n (i := 1) dX5_write_5 rfl rfl ?_
  refine ko_i2l dX5_write_6 ?_
  refine ko_lconst (v := 0) dX5_write_7 (by decide) ?_
  refine ko_ldc2 dX5_write_8 fc_X5_52 ?_
  refine ko_callSr lk_X5_48 dX5_write_11 (fn_in (d := d - 1) (v := c) (a := 0) (b := 255)) rfl rfl (by omega) (by omega) (by omega) (Nat.le_of_ble_eq_true rfl) ?_
  first | refine ko_ifb_ne (tgt := 20) dX5_write_14 (by decide) (fun c_14 => ?_) (fun c_14 => ?_) | refine ko_if_ne (tgt := 20) dX5_write_14 (by decide) (fun c_14 => ?_) (fun c_14 => ?_)
  · refine ko_aload_n (i := 0) dX5_write_20 rfl rfl ?_
    refine ko_get fl_X5_54 dX5_write_21 m0 rfl ?_
    refine ko_bipush (v := 48) dX5_write_24 (by decide) ?_
    refine ko_icmp_ne (tgt := 32) dX5_write_26 (by decide) (fun c_26 => ?_) (fun c_26 => ?_)
    · exact absurd (by rw [r1, h48]; rfl) c_26
    · refine ko_bipush (v := (-4)) dX5_write_29 (by decide) ?_
      refine ko_iret dX5_write_31 rfl (Nat.le_of_ble_eq_true rfl) (Nat.le_of_ble_eq_true rfl) ?_
      rfl
  · exact absurd c_14 (by rw [hr]; decide)
set_option maxRecDepth 20000 in
theorem y_write1 {G : kx_G} {d N m : Nat} {h : kx_H} {T : Nat → Int32} {L : Nat} {u : PU} {n C : Nat} {Ac K : Nat → PU} {kf : Nat → Int32} {sd : Int64} {c : Int32} (hc : ¬ c < 0 ∧ c ≤ 255 ∧ L < 48)  (hM : kM h m T L u n C Ac K kf sd) (hw : WF u n) (hd : 20 ≤ d) : ∃ g, kx_Fn mX5_write d 0 0 G [.ref m, .int c] N h (some (.int (nI (L + 1))), N, g) ∧ kM g m (upd T L c) (L + 1) u n C Ac K kf sd ∧ kFr h g m 10 := by
  obtain ⟨o, Kf, f, tr, rp, rk, bk, kp, zk, va, hi9, r1, r2, r3, r4, r5, r6, r7, r8, r9, rC, rL⟩ := id hM
  obtain ⟨m0, m1, m2, m3, m4, m5, m6, m7, m8, m9, m10⟩ := id hi9
  have hn5 := hw.2.1
  obtain ⟨p1, p2, p3, p4, p5, p6, p7⟩ := id r6
  have hr : inI c 0 255 = true := by
    rw [inR]
    simp [hc.1, hc.2.1]
  have fr : kFr h (kx_up (kx_up h (m + 1) (ka 48 (upd T L c))) m (kmo m ((nI (L + 1)), mPl o, mN o, mRp o, mAc o, mSd o, mSm o, mSo o, mSw o, mRm o, mRf o))) m 10 := (kFr.up (by omega)).tr (kFr.up (by omega))
  refine ⟨(kx_up (kx_up h (m + 1) (ka 48 (upd T L c))) m (kmo m ((nI (L + 1)), mPl o, mN o, mRp o, mAc o, mSd o, mSm o, mSo o, mSw o, mRm o, mRf o))), kx_Fn_of rfl (Nat.le_of_ble_eq_true rfl) rfl ?_ (kM_dom hM fr), ⟨_, Kf, f, tr, rp, rk, bk, kp, zk, va, kMi_o (kMi_T hi9 _) _, rfl, r2, r3, r4, r5, r6, r7, r8, r9, rC, by omega⟩, fr⟩
  · refine ko_aload_n (i := 0) dX5_write_0 rfl rfl ?_
    refine ko_iconst (v := 0) dX5_write_1 (by decide) ?_
    first | refine ko_put fl_X5_41 dX5_write_2 m0 rfl rfl (Nat.le_of_ble_eq_true rfl) ?_ | refine ko_put fl_X5_41 dX5_write_2 ((ku_n (by omega)).trans m0) rfl rfl (Nat.le_of_ble_eq_true rfl) ?_ | refine ko_put fl_X5_41 dX5_write_2 ku_s rfl rfl (Nat.le_of_ble_eq_true rfl) ?_
    refine ko_h (ku_same m0) ?_
    refine ko_iload_n (i := 1) dX5_write_5 rfl rfl ?_
    refine ko_i2l dX5_write_6 ?_
    refine ko_lconst (v := 0) dX5_write_7 (by decide) ?_
    refine ko_ldc2 dX5_write_8 fc_X5_52 ?_
    refine ko_callSr lk_X5_48 dX5_write_11 (fn_in (d := d - 1) (v := c) (a := 0) (b := 255)) rfl rfl (by omega) (by omega) (by omega) (Nat.le_of_ble_eq_true rfl) ?_
    first | refine ko_ifb_ne (tgt := 20) dX5_write_14 (by decide) (fun c_14 => ?_) (fun c_14 => ?_) | refine ko_if_ne (tgt := 20) dX5_write_14 (by decide) (fun c_14 => ?_) (fun c_14 => ?_)
    · refine ko_aload_n (i := 0) dX5_write_20 rfl rfl ?_
      first | refine ko_get fl_X5_54 dX5_write_21 m0 rfl ?_ | refine ko_get fl_X5_54 dX5_write_21 ((ku_n (by omega)).trans m0) rfl ?_ | refine ko_get fl_X5_54 dX5_write_21 ku_s rfl ?_
      refine ko_bipush (v := 48) dX5_write_24 (by decide) ?_
      refine ko_icmp_ne (tgt := 32) dX5_write_26 (by decide) (fun c_26 => ?_) (fun c_26 => ?_)
      · refine ko_aload_n (i := 0) dX5_write_32 rfl rfl ?_
        first | refine ko_get fl_X5_7 dX5_write_33 m0 rfl ?_ | refine ko_get fl_X5_7 dX5_write_33 ((ku_n (by omega)).trans m0) rfl ?_ | refine ko_get fl_X5_7 dX5_write_33 ku_s rfl ?_
        refine ko_aload_n (i := 0) dX5_write_36 rfl rfl ?_
        first | refine ko_get fl_X5_54 dX5_write_37 m0 rfl ?_ | refine ko_get fl_X5_54 dX5_write_37 ((ku_n (by omega)).trans m0) rfl ?_ | refine ko_get fl_X5_54 dX5_write_37 ku_s rfl ?_
        refine ko_iload_n (i := 1) dX5_write_40 rfl rfl ?_
        refine ko_iast dX5_write_41 m1 (by rw [r1]; exact vp_in_nI hc.2.2 (by omega)) ?_
        rw [r1, nI_clamp (by omega)]
        refine ko_aload_n (i := 0) dX5_write_42 rfl rfl ?_
        refine ko_dup dX5_write_43 rfl ?_
        refine ko_get fl_X5_54 dX5_write_44 ((ku_n (by omega)).trans m0) rfl ?_
        refine ko_iconst (v := 1) dX5_write_47 (by decide) ?_
        refine ko_iadd dX5_write_48 ?_
        rw [r1, nI_1]
        refine ko_put fl_X5_54 dX5_write_49 ((ku_n (by omega)).trans m0) rfl rfl (Nat.le_of_ble_eq_true rfl) ?_
        refine ko_aload_n (i := 0) dX5_write_52 rfl rfl ?_
        refine ko_get fl_X5_54 dX5_write_53 ku_s rfl ?_
        refine ko_iret dX5_write_56 rfl (Nat.le_of_ble_eq_true rfl) (Nat.le_of_ble_eq_true rfl) ?_
        rfl
      · exact absurd (show nI L = nI 48 from r1.symm.trans c_26) (fun z => absurd ((nI_eq (a := L) (b := 48) (by omega) (by omega)).mp z) (by omega))
    · exact absurd c_14 (by rw [hr]; decide)
