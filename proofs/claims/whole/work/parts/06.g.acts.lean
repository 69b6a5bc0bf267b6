/-! ===== the reference's acts, as they are called ===== -/
theorem kd_br (u : PU) (p : Int32) : pKd (brU u p) = pKd u := by
  unfold brU
  split
  · split
    · rfl
    · rfl
  · rfl
theorem kd_mk (u : PU) (p q : Int32) : pKd (mkU u p q) = pKd u := by
  unfold mkU
  split
  · split
    · rfl
    · rfl
  · rfl
theorem kd_st (u : PU) (p q : Int32) : pKd (stU u p q) = pKd u := by
  unfold stU
  split
  · split
    · exact kd_mk u p q
    · rfl
  · rfl
theorem kd_wf (u : PU) (p q : Int32) : pKd (wfU u p q) = pKd u := by
  unfold wfU
  split
  · split
    · exact kd_st _ p q
    · rfl
  · rfl
theorem kd_on (u : PU) (p q : Int32) : pKd (onU u p q) = pKd u := by
  unfold onU
  split
  · exact kd_st _ p q
  · rfl
theorem kd_pw (u : PU) (n : Nat) : pKd (pwU u n) = pKd u := congrArg (fun x => x.1) (wkN_2 u n)
theorem kM_page {h : kx_H} {m : Nat} {T : Nat → Int32} {L : Nat} {u v : PU} {n C : Nat} {Ac K : Nat → PU} {kf : Nat → Int32} {sd : Int64} {o : MO} {Kf f f' tr rp rk bk kp zk va : Nat → Int32} (hi9 : kMi h m o T Kf f tr rp rk bk kp zk va) (hr : kMr L u n C Ac K kf sd o Kf f bk kp zk) (hk : pKd v = pKd u) (hp : pgR f' v) : kM (kx_up h (m + 5) (ka 43 f')) m T L v n C Ac K kf sd := by
  obtain ⟨r1, r2, r3, r4, r5, r6, r7, r8, r9, rC, rL⟩ := hr
  exact ⟨o, Kf, f', tr, rp, rk, bk, kp, zk, va, kMi_f hi9 f', r1, r2, r3, r4, by rw [hk]; exact r5, hp, r7, r8, r9, rC, rL⟩
theorem mn_W {u : PU} {n : Nat} (hw : WF u n) : mnI (pOp u) 5 = bcI (pOp u) ∧ mnI (pOn u) 5 = bcI (pOn u) := by
  obtain ⟨w1, w2, w3, w4, w5, w6, ⟨a, ha, ea⟩, ⟨b, hb, eb⟩, w9⟩ := hw
  rw [ea, eb]
  exact ⟨mn_bc a (lt32 ha w2), mn_bc b (lt32 hb w2)⟩
set_option maxRecDepth 20000 in
theorem y_funeral1 {G : kx_G} {d N m : Nat} {h : kx_H} {T : Nat → Int32} {L : Nat} {u : PU} {n C : Nat} {Ac K : Nat → PU} {kf : Nat → Int32} {sd : Int64} {i : Nat} (hi : i < n) (ho : hbI (pOp u) (nI i) = false)  (hM : kM h m T L u n C Ac K kf sd) (hw : WF u n) (hd : 20 ≤ d) : ∃ g, kx_Fn mX5_funeral d 0 0 G [.ref m, .int (nI i)] N h (some (.int (bcI (pOp (brU u (nI i))))), N, g) ∧ kM g m T L (brU u (nI i)) n (rmC C) (rmA C Ac u) K kf sd ∧ kFr h g m 10 := by
  obtain ⟨o, Kf, f, tr, rp, rk, bk, kp, zk, va, hi9, r1, r2, r3, r4, r5, r6, r7, r8, r9, rC, rL⟩ := id hM
  obtain ⟨m0, m1, m2, m3, m4, m5, m6, m7, m8, m9, m10⟩ := id hi9
  have hn5 := hw.2.1
  obtain ⟨p1, p2, p3, p4, p5, p6, p7⟩ := id r6
  obtain ⟨g1, hg1, M1, fr1⟩ := sys_note (G := G) (N := N) (d := d - 1) hM
  obtain ⟨o1, Kf1, f1, tr1, rp1, rk1, bk1, kp1, zk1, va1, hj9, hr9⟩ := id M1
  obtain ⟨n0, n1, n2, n3, n4, n5, n6, n7, n8, n9, n10⟩ := id hj9
  obtain ⟨q1, q2, q3, q4, q5, q6, q7, q8, q9, qC, qL⟩ := id hr9
  have eR := opF_R q6 hw hi ho
  have fr : kFr h (kx_up g1 (m + 5) (ka 43 (opF f1 i))) m 10 := fr1.tr (kFr.up (by omega))
  refine ⟨(kx_up g1 (m + 5) (ka 43 (opF f1 i))), kx_Fn_of rfl (Nat.le_of_ble_eq_true rfl) rfl ?_ (kM_dom hM fr), kM_page hj9 hr9 (kd_br u _) eR, fr⟩
  · refine ko_aload_n (i := 0) dX5_funeral_0 rfl rfl ?_
    refine ko_iconst (v := 0) dX5_funeral_1 (by decide) ?_
    refine ko_put fl_X5_41 dX5_funeral_2 m0 rfl rfl (Nat.le_of_ble_eq_true rfl) ?_
    refine ko_h (ku_same m0) ?_
    refine ko_aload_n (i := 0) dX5_funeral_5 rfl rfl ?_
    refine ko_iload_n (i := 1) dX5_funeral_6 rfl rfl ?_
    refine ko_callVr lk_X5_108 dX5_funeral_7 (fn_noPerson (d := d - 1) m0 r2 hn5 (by omega)) rfl rfl m0 rfl rfl (by omega) (by omega) (by omega) (Nat.le_of_ble_eq_true rfl) ?_
    first | refine ko_ifb_eq (tgt := 15) dX5_funeral_10 (by decide) (fun c_10 => ?_) (fun c_10 => ?_) | refine ko_if_eq (tgt := 15) dX5_funeral_10 (by decide) (fun c_10 => ?_) (fun c_10 => ?_)
    · refine ko_aload_n (i := 0) dX5_funeral_15 rfl rfl ?_
      refine ko_get fl_X5_22 dX5_funeral_16 m0 rfl ?_
      refine ko_bipush (v := 15) dX5_funeral_19 (by decide) ?_
      refine ko_iald dX5_funeral_21 m5 (in15 (i := 15) (by omega)) ?_
      refine ko_st (st' := [.int (f 15)]) rfl ?_
      rw [p4]
      refine ko_iload_n (i := 1) dX5_funeral_22 rfl rfl ?_
      refine ko_callSr lk_X5_63 dX5_funeral_23 (fn_mhas (by omega)) rfl rfl (by omega) (by omega) (by omega) (Nat.le_of_ble_eq_true rfl) ?_
      first | refine ko_ifb_eq (tgt := 32) dX5_funeral_26 (by decide) (fun c_26 => ?_) (fun c_26 => ?_) | refine ko_if_eq (tgt := 32) dX5_funeral_26 (by decide) (fun c_26 => ?_) (fun c_26 => ?_)
      · refine ko_aload_n (i := 0) dX5_funeral_32 rfl rfl ?_
        refine ko_callVv lk_X5_115 dX5_funeral_33 hg1 rfl rfl m0 rfl rfl (by omega) (by omega) (by omega) (Nat.le_of_ble_eq_true rfl) ?_
        refine ko_aload_n (i := 0) dX5_funeral_36 rfl rfl ?_
        refine ko_aload_n (i := 0) dX5_funeral_37 rfl rfl ?_
        refine ko_get fl_X5_22 dX5_funeral_38 n0 rfl ?_
        refine ko_iload_n (i := 1) dX5_funeral_41 rfl rfl ?_
        refine ko_callVv lk_X5_118 dX5_funeral_42 (fn_mopen (d := d - 1) (by omega) n5) rfl rfl n0 rfl rfl (by omega) (by omega) (by omega) (Nat.le_of_ble_eq_true rfl) ?_
        refine ko_aload_n (i := 0) dX5_funeral_45 rfl rfl ?_
        refine ko_get fl_X5_22 dX5_funeral_46 ((ku_n (by omega)).trans n0) rfl ?_
        refine ko_bipush (v := 15) dX5_funeral_49 (by decide) ?_
        refine ko_iald dX5_funeral_51 ku_s (in15 (i := 15) (by omega)) ?_
        refine ko_st (st' := [.int (opF f1 i 15)]) rfl ?_
        rw [eR.2.2.2.1]
        refine ko_callSr lk_X5_122 dX5_funeral_52 (fn_many (d := d - 1)) rfl rfl (by omega) (by omega) (by omega) (Nat.le_of_ble_eq_true rfl) ?_
        refine ko_iret dX5_funeral_55 rfl (Nat.le_of_ble_eq_true rfl) (Nat.le_of_ble_eq_true rfl) ?_
        rw [(mn_W (WF_br hw hi)).1]
      · exact absurd c_26 (by rw [ho]; decide)
    · exact absurd c_10 (by rw [hasT hn5 hi]; decide)
set_option maxRecDepth 20000 in
theorem y_funeral0 {G : kx_G} {d N m : Nat} {h : kx_H} {T : Nat → Int32} {L : Nat} {u : PU} {n C : Nat} {Ac K : Nat → PU} {kf : Nat → Int32} {sd : Int64} {p : Int32} (ok : fuB u p = false) (hM : kM h m T L u n C Ac K kf sd) (hw : WF u n) (hd : 20 ≤ d) : kx_Fn mX5_funeral d 0 0 G [.ref m, .int p] N h (some (.int (fuI u p)), N, h) := by
  refine kx_Fn_of rfl (Nat.le_of_ble_eq_true rfl) rfl ?_ (kx_self)
  obtain ⟨o, Kf, f, tr, rp, rk, bk, kp, zk, va, hi9, r1, r2, r3, r4, r5, r6, r7, r8, r9, rC, rL⟩ := id hM
  obtain ⟨m0, m1, m2, m3, m4, m5, m6, m7, m8, m9, m10⟩ := id hi9
  have hn5 := hw.2.1
  obtain ⟨p1, p2, p3, p4, p5, p6, p7⟩ := id r6
  refine ko_aload_n (i := 0) dX5_funeral_0 rfl rfl ?_
  refine ko_iconst (v := 0) dX5_funeral_1 (by decide) ?_
  refine ko_put fl_X5_41 dX5_funeral_2 m0 rfl rfl (Nat.le_of_ble_eq_true rfl) ?_
  refine ko_h (ku_same m0) ?_
  refine ko_aload_n (i := 0) dX5_funeral_5 rfl rfl ?_
  refine ko_iload_n (i := 1) dX5_funeral_6 rfl rfl ?_
  refine ko_callVr lk_X5_108 dX5_funeral_7 (fn_noPerson (d := d - 1) m0 r2 hn5 (by omega)) rfl rfl m0 rfl rfl (by omega) (by omega) (by omega) (Nat.le_of_ble_eq_true rfl) ?_
  first | refine ko_ifb_eq (tgt := 15) dX5_funeral_10 (by decide) (fun c_10 => ?_) (fun c_10 => ?_) | refine ko_if_eq (tgt := 15) dX5_funeral_10 (by decide) (fun c_10 => ?_) (fun c_10 => ?_)
  · have h_10 : hasI (nI n) p = true := by
      rw [Bool.not_eq_false'] at c_10
      exact c_10
    obtain ⟨i, hi, rfl⟩ := has_of hn5 h_10
    refine ko_aload_n (i := 0) dX5_funeral_15 rfl rfl ?_
    refine ko_get fl_X5_22 dX5_funeral_16 m0 rfl ?_
    refine ko_bipush (v := 15) dX5_funeral_19 (by decide) ?_
    refine ko_iald dX5_funeral_21 m5 (in15 (i := 15) (by omega)) ?_
    refine ko_st (st' := [.int (f 15)]) rfl ?_
    rw [p4]
    refine ko_iload_n (i := 1) dX5_funeral_22 rfl rfl ?_
    refine ko_callSr lk_X5_63 dX5_funeral_23 (fn_mhas (by omega)) rfl rfl (by omega) (by omega) (by omega) (Nat.le_of_ble_eq_true rfl) ?_
    first | refine ko_ifb_eq (tgt := 32) dX5_funeral_26 (by decide) (fun c_26 => ?_) (fun c_26 => ?_) | refine ko_if_eq (tgt := 32) dX5_funeral_26 (by decide) (fun c_26 => ?_) (fun c_26 => ?_)
    · exact absurd ok (by simp [fuB, hasW hw hi, c_10, c_26])
    · refine ko_bipush (v := (-3)) dX5_funeral_29 (by decide) ?_
      refine ko_iret dX5_funeral_31 rfl (Nat.le_of_ble_eq_true rfl) (Nat.le_of_ble_eq_true rfl) ?_
      unfold fuI
      rw [hasW hw hi]
      rfl
  · have h_10 : hasI (nI n) p = false := by
      rw [Bool.not_eq_true'] at c_10
      exact c_10
    refine ko_iconst (v := (-1)) dX5_funeral_13 (by decide) ?_
    refine ko_iret dX5_funeral_14 rfl (Nat.le_of_ble_eq_true rfl) (Nat.le_of_ble_eq_true rfl) ?_
    unfold fuI
    rw [hw.1, h_10]
    rfl
set_option maxRecDepth 20000 in
theorem y_weep1 {G : kx_G} {d N m : Nat} {h : kx_H} {T : Nat → Int32} {L : Nat} {u : PU} {n C : Nat} {Ac K : Nat → PU} {kf : Nat → Int32} {sd : Int64} {i j : Nat} (hi : i < n) (hj : j < n) (ho : mayI u (nI i) (nI j) = true)  (hM : kM h m T L u n C Ac K kf sd) (hw : WF u n) (hd : 20 ≤ d) : ∃ g, kx_Fn mX5_weep d 0 0 G [.ref m, .int (nI i), .int (nI j)] N h (some (.int (wfI u (nI i) (nI j))), N, g) ∧ kM g m T L (wfU u (nI i) (nI j)) n (rmC C) (rmA C Ac u) K kf sd ∧ kFr h g m 10 := by
  obtain ⟨o, Kf, f, tr, rp, rk, bk, kp, zk, va, hi9, r1, r2, r3, r4, r5, r6, r7, r8, r9, rC, rL⟩ := id hM
  obtain ⟨m0, m1, m2, m3, m4, m5, m6, m7, m8, m9, m10⟩ := id hi9
  have hn5 := hw.2.1
  obtain ⟨p1, p2, p3, p4, p5, p6, p7⟩ := id r6
  obtain ⟨g1, hg1, M1, fr1⟩ := sys_note (G := G) (N := N) (d := d - 1) hM
  obtain ⟨o1, Kf1, f1, tr1, rp1, rk1, bk1, kp1, zk1, va1, hj9, hr9⟩ := id M1
  obtain ⟨n0, n1, n2, n3, n4, n5, n6, n7, n8, n9, n10⟩ := id hj9
  obtain ⟨q1, q2, q3, q4, q5, q6, q7, q8, q9, qC, qL⟩ := id hr9
  have ci : (nI i).toNatClampNeg = i := nI_clamp (by omega)
  have ew : wfI u (nI i) (nI j) = ozI u (nI i) := by
    unfold wfI
    rw [if_pos (hasW hw hi), if_pos ho]
  have eU : wfU u (nI i) (nI j) = stU (upd (pSo u) i (pSo u i - ozI u (nI i)), u.2) (nI i) (nI j) := by
    unfold wfU
    rw [if_pos (hasW hw hi), if_pos ho, ci]
  have eP : pgR (upd f1 i (f1 i - ozI u (nI i))) (upd (pSo u) i (pSo u i - ozI u (nI i)), u.2) := by
    obtain ⟨w1, w2, w3, w4, w5, w6, w7⟩ := q6
    refine ⟨fun k hk => ?_, fun k hk => by rw [pk_un (by omega)]; exact w2 k hk, fun k hk => by rw [pk_un (by omega)]; exact w3 k hk, by rw [pk_un (by omega)]; exact w4, fun k hk => by rw [pk_un (by omega)]; exact w5 k hk, by rw [pk_un (by omega)]; exact w6, by rw [pk_un (by omega)]; exact w7⟩
    show _ = upd (pSo u) i _ k
    rw [w1 i (by omega)]
    by_cases h1 : k = i
    · subst h1; rw [pk_us, pk_us]
    · rw [pk_un h1, pk_un h1]; exact w1 k hk
  have eR : pgR (gpF f1 i j (ozI u (nI i))) (wfU u (nI i) (nI j)) := by
    rw [eU]
    exact clF_R eP (WF_so hw hi) hi hj
  have fr : kFr h (kx_up g1 (m + 5) (ka 43 (gpF f1 i j (ozI u (nI i))))) m 10 := fr1.tr (kFr.up (by omega))
  refine ⟨(kx_up g1 (m + 5) (ka 43 (gpF f1 i j (ozI u (nI i))))), kx_Fn_of rfl (Nat.le_of_ble_eq_true rfl) rfl ?_ (kM_dom hM fr), kM_page hj9 hr9 (kd_wf u _ _) eR, fr⟩
  · refine ko_aload_n (i := 0) dX5_weep_0 rfl rfl ?_
    refine ko_iconst (v := 0) dX5_weep_1 (by decide) ?_
    refine ko_put fl_X5_41 dX5_weep_2 m0 rfl rfl (Nat.le_of_ble_eq_true rfl) ?_
    refine ko_h (ku_same m0) ?_
    refine ko_aload_n (i := 0) dX5_weep_5 rfl rfl ?_
    refine ko_iload_n (i := 1) dX5_weep_6 rfl rfl ?_
    refine ko_callVr lk_X5_108 dX5_weep_7 (fn_noPerson (d := d - 1) m0 r2 hn5 (by omega)) rfl rfl m0 rfl rfl (by omega) (by omega) (by omega) (Nat.le_of_ble_eq_true rfl) ?_
    first | refine ko_ifb_ne (tgt := 21) dX5_weep_10 (by decide) (fun c_10 => ?_) (fun c_10 => ?_) | refine ko_if_ne (tgt := 21) dX5_weep_10 (by decide) (fun c_10 => ?_) (fun c_10 => ?_)
    · exact absurd c_10 (by rw [hasT hn5 hi]; decide)
    · refine ko_aload_n (i := 0) dX5_weep_13 rfl rfl ?_
      refine ko_iload_n (i := 2) dX5_weep_14 rfl rfl ?_
      refine ko_callVr lk_X5_108 dX5_weep_15 (fn_noPerson (d := d - 1) m0 r2 hn5 (by omega)) rfl rfl m0 rfl rfl (by omega) (by omega) (by omega) (Nat.le_of_ble_eq_true rfl) ?_
      first | refine ko_ifb_eq (tgt := 23) dX5_weep_18 (by decide) (fun c_18 => ?_) (fun c_18 => ?_) | refine ko_if_eq (tgt := 23) dX5_weep_18 (by decide) (fun c_18 => ?_) (fun c_18 => ?_)
      · refine ko_aload_n (i := 0) dX5_weep_23 rfl rfl ?_
        refine ko_aload_n (i := 0) dX5_weep_24 rfl rfl ?_
        refine ko_get fl_X5_22 dX5_weep_25 m0 rfl ?_
        refine ko_iload_n (i := 1) dX5_weep_28 rfl rfl ?_
        refine ko_iload_n (i := 2) dX5_weep_29 rfl rfl ?_
        refine ko_callVr lk_X5_105 dX5_weep_30 (fn_mmayWeep (d := d - 1) m0 m2 r5 m5 r6 hw hi hj (by omega)) rfl rfl m0 rfl rfl (by omega) (by omega) (by omega) (Nat.le_of_ble_eq_true rfl) ?_
        first | refine ko_ifb_ne (tgt := 39) dX5_weep_33 (by decide) (fun c_33 => ?_) (fun c_33 => ?_) | refine ko_if_ne (tgt := 39) dX5_weep_33 (by decide) (fun c_33 => ?_) (fun c_33 => ?_)
        · refine ko_aload_n (i := 0) dX5_weep_39 rfl rfl ?_
          refine ko_callVv lk_X5_115 dX5_weep_40 hg1 rfl rfl m0 rfl rfl (by omega) (by omega) (by omega) (Nat.le_of_ble_eq_true rfl) ?_
          refine ko_aload_n (i := 0) dX5_weep_43 rfl rfl ?_
          refine ko_aload_n (i := 0) dX5_weep_44 rfl rfl ?_
          refine ko_get fl_X5_22 dX5_weep_45 n0 rfl ?_
          refine ko_iload_n (i := 1) dX5_weep_48 rfl rfl ?_
          refine ko_iload_n (i := 2) dX5_weep_49 rfl rfl ?_
          refine ko_callVr lk_X5_125 dX5_weep_50 (fn_mgoWeep (d := d - 1) n0 n2 q5 q6 hw hi hj (by omega) (by omega) n5) rfl rfl n0 rfl rfl (by omega) (by omega) (by omega) (Nat.le_of_ble_eq_true rfl) ?_
          refine ko_iret dX5_weep_53 rfl (Nat.le_of_ble_eq_true rfl) (Nat.le_of_ble_eq_true rfl) ?_
          rw [ew]
        · exact absurd c_33 (by rw [ho]; decide)
      · exact absurd c_18 (by rw [hasT hn5 hj]; decide)
set_option maxRecDepth 20000 in
theorem y_weep0 {G : kx_G} {d N m : Nat} {h : kx_H} {T : Nat → Int32} {L : Nat} {u : PU} {n C : Nat} {Ac K : Nat → PU} {kf : Nat → Int32} {sd : Int64} {p q : Int32} (ok : weB u p q = false) (hM : kM h m T L u n C Ac K kf sd) (hw : WF u n) (hd : 20 ≤ d) : kx_Fn mX5_weep d 0 0 G [.ref m, .int p, .int q] N h (some (.int (weI u p q)), N, h) := by
  refine kx_Fn_of rfl (Nat.le_of_ble_eq_true rfl) rfl ?_ (kx_self)
  obtain ⟨o, Kf, f, tr, rp, rk, bk, kp, zk, va, hi9, r1, r2, r3, r4, r5, r6, r7, r8, r9, rC, rL⟩ := id hM
  obtain ⟨m0, m1, m2, m3, m4, m5, m6, m7, m8, m9, m10⟩ := id hi9
  have hn5 := hw.2.1
  obtain ⟨p1, p2, p3, p4, p5, p6, p7⟩ := id r6
  refine ko_aload_n (i := 0) dX5_weep_0 rfl rfl ?_
  refine ko_iconst (v := 0) dX5_weep_1 (by decide) ?_
  refine ko_put fl_X5_41 dX5_weep_2 m0 rfl rfl (Nat.le_of_ble_eq_true rfl) ?_
  refine ko_h (ku_same m0) ?_
  refine ko_aload_n (i := 0) dX5_weep_5 rfl rfl ?_
  refine ko_iload_n (i := 1) dX5_weep_6 rfl rfl ?_
  refine ko_callVr lk_X5_108 dX5_weep_7 (fn_noPerson (d := d - 1) m0 r2 hn5 (by omega)) rfl rfl m0 rfl rfl (by omega) (by omega) (by omega) (Nat.le_of_ble_eq_true rfl) ?_
  first | refine ko_ifb_ne (tgt := 21) dX5_weep_10 (by decide) (fun c_10 => ?_) (fun c_10 => ?_) | refine ko_if_ne (tgt := 21) dX5_weep_10 (by decide) (fun c_10 => ?_) (fun c_10 => ?_)
  · have h_10 : hasI (nI n) p = false := by
      rw [Bool.not_eq_true'] at c_10
      exact c_10
    refine ko_iconst (v := (-1)) dX5_weep_21 (by decide) ?_
    refine ko_iret dX5_weep_22 rfl (Nat.le_of_ble_eq_true rfl) (Nat.le_of_ble_eq_true rfl) ?_
    first
      | (unfold weI; rw [hw.1, h_10]; rfl)
      | (unfold weI; rw [hw.1, h_10, h_18]; rfl)
  · have h_10 : hasI (nI n) p = true := by
      rw [Bool.not_eq_false'] at c_10
      exact c_10
    refine ko_aload_n (i := 0) dX5_weep_13 rfl rfl ?_
    refine ko_iload_n (i := 2) dX5_weep_14 rfl rfl ?_
    refine ko_callVr lk_X5_108 dX5_weep_15 (fn_noPerson (d := d - 1) m0 r2 hn5 (by omega)) rfl rfl m0 rfl rfl (by omega) (by omega) (by omega) (Nat.le_of_ble_eq_true rfl) ?_
    first | refine ko_ifb_eq (tgt := 23) dX5_weep_18 (by decide) (fun c_18 => ?_) (fun c_18 => ?_) | refine ko_if_eq (tgt := 23) dX5_weep_18 (by decide) (fun c_18 => ?_) (fun c_18 => ?_)
    · have h_18 : hasI (nI n) q = true := by
        rw [Bool.not_eq_false'] at c_18
        exact c_18
      obtain ⟨i, hi, rfl⟩ := has_of hn5 h_10
      obtain ⟨j, hj, rfl⟩ := has_of hn5 h_18
      refine ko_aload_n (i := 0) dX5_weep_23 rfl rfl ?_
      refine ko_aload_n (i := 0) dX5_weep_24 rfl rfl ?_
      refine ko_get fl_X5_22 dX5_weep_25 m0 rfl ?_
      refine ko_iload_n (i := 1) dX5_weep_28 rfl rfl ?_
      refine ko_iload_n (i := 2) dX5_weep_29 rfl rfl ?_
      refine ko_callVr lk_X5_105 dX5_weep_30 (fn_mmayWeep (d := d - 1) m0 m2 r5 m5 r6 hw hi hj (by omega)) rfl rfl m0 rfl rfl (by omega) (by omega) (by omega) (Nat.le_of_ble_eq_true rfl) ?_
      first | refine ko_ifb_ne (tgt := 39) dX5_weep_33 (by decide) (fun c_33 => ?_) (fun c_33 => ?_) | refine ko_if_ne (tgt := 39) dX5_weep_33 (by decide) (fun c_33 => ?_) (fun c_33 => ?_)
      · exact absurd ok (by simp [weB, hasW hw hi, hasW hw hj, c_33])
      · refine ko_bipush (v := (-3)) dX5_weep_36 (by decide) ?_
        refine ko_iret dX5_weep_38 rfl (Nat.le_of_ble_eq_true rfl) (Nat.le_of_ble_eq_true rfl) ?_
        unfold weI
        rw [hasW hw hi, hasW hw hj]
        rfl
    · have h_18 : hasI (nI n) q = false := by
        rw [Bool.not_eq_true'] at c_18
        exact c_18
      refine ko_iconst (v := (-1)) dX5_weep_21 (by decide) ?_
      refine ko_iret dX5_weep_22 rfl (Nat.le_of_ble_eq_true rfl) (Nat.le_of_ble_eq_true rfl) ?_
      first
        | (unfold weI; rw [hw.1, h_10]; rfl)
        | (unfold weI; rw [hw.1, h_10, h_18]; rfl)
set_option maxRecDepth 20000 in
theorem y_onions0 {G : kx_G} {d N m : Nat} {h : kx_H} {T : Nat → Int32} {L : Nat} {u : PU} {n C : Nat} {Ac K : Nat → PU} {kf : Nat → Int32} {sd : Int64} {p q : Int32} (ok : onB u p q = false) (hM : kM h m T L u n C Ac K kf sd) (hw : WF u n) (hd : 20 ≤ d) : kx_Fn mX5_onions d 0 0 G [.ref m, .int p, .int q] N h (some (.int (weI u p q)), N, h) := by
  refine kx_Fn_of rfl (Nat.le_of_ble_eq_true rfl) rfl ?_ (kx_self)
  obtain ⟨o, Kf, f, tr, rp, rk, bk, kp, zk, va, hi9, r1, r2, r3, r4, r5, r6, r7, r8, r9, rC, rL⟩ := id hM
  obtain ⟨m0, m1, m2, m3, m4, m5, m6, m7, m8, m9, m10⟩ := id hi9
  have hn5 := hw.2.1
  obtain ⟨p1, p2, p3, p4, p5, p6, p7⟩ := id r6
  refine ko_aload_n (i := 0) dX5_onions_0 rfl rfl ?_
  refine ko_iconst (v := 0) dX5_onions_1 (by decide) ?_
  refine ko_put fl_X5_41 dX5_onions_2 m0 rfl rfl (Nat.le_of_ble_eq_true rfl) ?_
  refine ko_h (ku_same m0) ?_
  refine ko_aload_n (i := 0) dX5_onions_5 rfl rfl ?_
  refine ko_iload_n (i := 1) dX5_onions_6 rfl rfl ?_
  refine ko_callVr lk_X5_108 dX5_onions_7 (fn_noPerson (d := d - 1) m0 r2 hn5 (by omega)) rfl rfl m0 rfl rfl (by omega) (by omega) (by omega) (Nat.le_of_ble_eq_true rfl) ?_
  first | refine ko_ifb_ne (tgt := 21) dX5_onions_10 (by decide) (fun c_10 => ?_) (fun c_10 => ?_) | refine ko_if_ne (tgt := 21) dX5_onions_10 (by decide) (fun c_10 => ?_) (fun c_10 => ?_)
  · have h_10 : hasI (nI n) p = false := by
      rw [Bool.not_eq_true'] at c_10
      exact c_10
    refine ko_iconst (v := (-1)) dX5_onions_21 (by decide) ?_
    refine ko_iret dX5_onions_22 rfl (Nat.le_of_ble_eq_true rfl) (Nat.le_of_ble_eq_true rfl) ?_
    first
      | (unfold weI; rw [hw.1, h_10]; rfl)
      | (unfold weI; rw [hw.1, h_10, h_18]; rfl)
  · have h_10 : hasI (nI n) p = true := by
      rw [Bool.not_eq_false'] at c_10
      exact c_10
    refine ko_aload_n (i := 0) dX5_onions_13 rfl rfl ?_
    refine ko_iload_n (i := 2) dX5_onions_14 rfl rfl ?_
    refine ko_callVr lk_X5_108 dX5_onions_15 (fn_noPerson (d := d - 1) m0 r2 hn5 (by omega)) rfl rfl m0 rfl rfl (by omega) (by omega) (by omega) (Nat.le_of_ble_eq_true rfl) ?_
    first | refine ko_ifb_eq (tgt := 23) dX5_onions_18 (by decide) (fun c_18 => ?_) (fun c_18 => ?_) | refine ko_if_eq (tgt := 23) dX5_onions_18 (by decide) (fun c_18 => ?_) (fun c_18 => ?_)
    · have h_18 : hasI (nI n) q = true := by
        rw [Bool.not_eq_false'] at c_18
        exact c_18
      obtain ⟨i, hi, rfl⟩ := has_of hn5 h_10
      obtain ⟨j, hj, rfl⟩ := has_of hn5 h_18
      refine ko_aload_n (i := 0) dX5_onions_23 rfl rfl ?_
      refine ko_aload_n (i := 0) dX5_onions_24 rfl rfl ?_
      refine ko_get fl_X5_22 dX5_onions_25 m0 rfl ?_
      refine ko_iload_n (i := 1) dX5_onions_28 rfl rfl ?_
      refine ko_iload_n (i := 2) dX5_onions_29 rfl rfl ?_
      refine ko_callVr lk_X5_93 dX5_onions_30 (fn_misFree (d := d - 1) m5 r6 hw hi hj (by omega)) rfl rfl m0 rfl rfl (by omega) (by omega) (by omega) (Nat.le_of_ble_eq_true rfl) ?_
      first | refine ko_ifb_ne (tgt := 39) dX5_onions_33 (by decide) (fun c_33 => ?_) (fun c_33 => ?_) | refine ko_if_ne (tgt := 39) dX5_onions_33 (by decide) (fun c_33 => ?_) (fun c_33 => ?_)
      · exact absurd ok (by simp [onB, hasW hw hi, hasW hw hj, c_33])
      · refine ko_bipush (v := (-3)) dX5_onions_36 (by decide) ?_
        refine ko_iret dX5_onions_38 rfl (Nat.le_of_ble_eq_true rfl) (Nat.le_of_ble_eq_true rfl) ?_
        unfold weI
        rw [hasW hw hi, hasW hw hj]
        rfl
    · have h_18 : hasI (nI n) q = false := by
        rw [Bool.not_eq_true'] at c_18
        exact c_18
      refine ko_iconst (v := (-1)) dX5_onions_21 (by decide) ?_
      refine ko_iret dX5_onions_22 rfl (Nat.le_of_ble_eq_true rfl) (Nat.le_of_ble_eq_true rfl) ?_
      first
        | (unfold weI; rw [hw.1, h_10]; rfl)
        | (unfold weI; rw [hw.1, h_10, h_18]; rfl)
set_option maxRecDepth 20000 in
theorem y_onions1 {G : kx_G} {d N m : Nat} {h : kx_H} {T : Nat → Int32} {L : Nat} {u : PU} {n C : Nat} {Ac K : Nat → PU} {kf : Nat → Int32} {sd : Int64} {i j : Nat} (hi : i < n) (hj : j < n) (ho : onyI u (nI i) (nI j) = true)  (hM : kM h m T L u n C Ac K kf sd) (hw : WF u n) (hd : 20 ≤ d) : ∃ g, kx_Fn mX5_onions d 0 0 G [.ref m, .int (nI i), .int (nI j)] N h (some (.int (bcI (pOn (onU u (nI i) (nI j))))), N, g) ∧ kM g m T L (onU u (nI i) (nI j)) n (rmC C) (rmA C Ac u) K kf sd ∧ kFr h g m 10 := by
  obtain ⟨o, Kf, f, tr, rp, rk, bk, kp, zk, va, hi9, r1, r2, r3, r4, r5, r6, r7, r8, r9, rC, rL⟩ := id hM
  obtain ⟨m0, m1, m2, m3, m4, m5, m6, m7, m8, m9, m10⟩ := id hi9
  have hn5 := hw.2.1
  obtain ⟨p1, p2, p3, p4, p5, p6, p7⟩ := id r6
  obtain ⟨g1, hg1, M1, fr1⟩ := sys_note (G := G) (N := N) (d := d - 1) hM
  obtain ⟨o1, Kf1, f1, tr1, rp1, rk1, bk1, kp1, zk1, va1, hj9, hr9⟩ := id M1
  obtain ⟨n0, n1, n2, n3, n4, n5, n6, n7, n8, n9, n10⟩ := id hj9
  obtain ⟨q1, q2, q3, q4, q5, q6, q7, q8, q9, qC, qL⟩ := id hr9
  have eC := clF_R q6 hw hi hj
  have eS : stU u (nI i) (nI j) = stV (mkU u (nI i) (nI j)) (nI i) (nI j) := by
    unfold stU
    rw [if_pos (hasW hw hi), if_pos (hasW hw hj)]
  have eOn : pOn (stU u (nI i) (nI j)) = pOn u := by
    rw [eS]
    unfold stV mkU
    rw [if_pos (hasW hw hi), if_pos (hasW hw hj)]
  have eU : onU u (nI i) (nI j) = (let v := stU u (nI i) (nI j); (v.1, v.2.1, v.2.2.1, v.2.2.2.1, v.2.2.2.2.1, v.2.2.2.2.2.1, v.2.2.2.2.2.2.1, pOn u ||| 1 <<< (nI i &&& 31), v.2.2.2.2.2.2.2.2)) := by
    unfold onU
    rw [if_pos ho]
    unfold stU
    rw [if_pos (hasW hw hi), if_pos (hasW hw hi), if_pos (hasW hw hj), if_pos (hasW hw hj)]
    unfold stV mkU
    rw [if_pos (hasW hw hi), if_pos (hasW hw hi), if_pos (hasW hw hj), if_pos (hasW hw hj)]
  have eR : pgR (upd (clF f1 i j) 41 (pOn u ||| 1 <<< (nI i &&& 31))) (onU u (nI i) (nI j)) := by
    rw [eU]
    obtain ⟨w1, w2, w3, w4, w5, w6, w7⟩ := eC
    exact ⟨fun k hk => by rw [pk_un (by omega)]; exact w1 k hk, fun k hk => by rw [pk_un (by omega)]; exact w2 k hk, fun k hk => by rw [pk_un (by omega)]; exact w3 k hk, by rw [pk_un (by omega)]; exact w4, fun k hk => by rw [pk_un (by omega)]; exact w5 k hk, by rw [pk_us], by rw [pk_un (by omega)]; exact w7⟩
  have fr : kFr h (kx_up g1 (m + 5) (ka 43 (upd (clF f1 i j) 41 (pOn u ||| 1 <<< (nI i &&& 31))))) m 10 := fr1.tr (kFr.up (by omega))
  refine ⟨(kx_up g1 (m + 5) (ka 43 (upd (clF f1 i j) 41 (pOn u ||| 1 <<< (nI i &&& 31))))), kx_Fn_of rfl (Nat.le_of_ble_eq_true rfl) rfl ?_ (kM_dom hM fr), kM_page hj9 hr9 (kd_on u _ _) eR, fr⟩
  · refine ko_aload_n (i := 0) dX5_onions_0 rfl rfl ?_
    refine ko_iconst (v := 0) dX5_onions_1 (by decide) ?_
    refine ko_put fl_X5_41 dX5_onions_2 m0 rfl rfl (Nat.le_of_ble_eq_true rfl) ?_
    refine ko_h (ku_same m0) ?_
    refine ko_aload_n (i := 0) dX5_onions_5 rfl rfl ?_
    refine ko_iload_n (i := 1) dX5_onions_6 rfl rfl ?_
    refine ko_callVr lk_X5_108 dX5_onions_7 (fn_noPerson (d := d - 1) m0 r2 hn5 (by omega)) rfl rfl m0 rfl rfl (by omega) (by omega) (by omega) (Nat.le_of_ble_eq_true rfl) ?_
    first | refine ko_ifb_ne (tgt := 21) dX5_onions_10 (by decide) (fun c_10 => ?_) (fun c_10 => ?_) | refine ko_if_ne (tgt := 21) dX5_onions_10 (by decide) (fun c_10 => ?_) (fun c_10 => ?_)
    · exact absurd c_10 (by rw [hasT hn5 hi]; decide)
    · refine ko_aload_n (i := 0) dX5_onions_13 rfl rfl ?_
      refine ko_iload_n (i := 2) dX5_onions_14 rfl rfl ?_
      refine ko_callVr lk_X5_108 dX5_onions_15 (fn_noPerson (d := d - 1) m0 r2 hn5 (by omega)) rfl rfl m0 rfl rfl (by omega) (by omega) (by omega) (Nat.le_of_ble_eq_true rfl) ?_
      first | refine ko_ifb_eq (tgt := 23) dX5_onions_18 (by decide) (fun c_18 => ?_) (fun c_18 => ?_) | refine ko_if_eq (tgt := 23) dX5_onions_18 (by decide) (fun c_18 => ?_) (fun c_18 => ?_)
      · refine ko_aload_n (i := 0) dX5_onions_23 rfl rfl ?_
        refine ko_aload_n (i := 0) dX5_onions_24 rfl rfl ?_
        refine ko_get fl_X5_22 dX5_onions_25 m0 rfl ?_
        refine ko_iload_n (i := 1) dX5_onions_28 rfl rfl ?_
        refine ko_iload_n (i := 2) dX5_onions_29 rfl rfl ?_
        refine ko_callVr lk_X5_93 dX5_onions_30 (fn_misFree (d := d - 1) m5 r6 hw hi hj (by omega)) rfl rfl m0 rfl rfl (by omega) (by omega) (by omega) (Nat.le_of_ble_eq_true rfl) ?_
        first | refine ko_ifb_ne (tgt := 39) dX5_onions_33 (by decide) (fun c_33 => ?_) (fun c_33 => ?_) | refine ko_if_ne (tgt := 39) dX5_onions_33 (by decide) (fun c_33 => ?_) (fun c_33 => ?_)
        · refine ko_aload_n (i := 0) dX5_onions_39 rfl rfl ?_
          refine ko_callVv lk_X5_115 dX5_onions_40 hg1 rfl rfl m0 rfl rfl (by omega) (by omega) (by omega) (Nat.le_of_ble_eq_true rfl) ?_
          refine ko_aload_n (i := 0) dX5_onions_43 rfl rfl ?_
          refine ko_aload_n (i := 0) dX5_onions_44 rfl rfl ?_
          refine ko_get fl_X5_22 dX5_onions_45 n0 rfl ?_
          refine ko_iload_n (i := 1) dX5_onions_48 rfl rfl ?_
          refine ko_iload_n (i := 2) dX5_onions_49 rfl rfl ?_
          refine ko_callVv lk_X5_101 dX5_onions_50 (fn_mclose (d := d - 1) (by omega) (by omega) n5) rfl rfl n0 rfl rfl (by omega) (by omega) (by omega) (Nat.le_of_ble_eq_true rfl) ?_
          refine ko_aload_n (i := 0) dX5_onions_53 rfl rfl ?_
          refine ko_get fl_X5_22 dX5_onions_54 ((ku_n (by omega)).trans n0) rfl ?_
          refine ko_bipush (v := 41) dX5_onions_57 (by decide) ?_
          refine ko_dup2 dX5_onions_59 rfl rfl ?_
          refine ko_iald dX5_onions_60 ku_s (in15 (i := 41) (by omega)) ?_
          refine ko_st (st' := [.int (clF f1 i j 41), .int 41, .ref (m + 5)]) rfl ?_
          rw [eC.2.2.2.2.2.1, eOn]
          refine ko_iconst (v := 1) dX5_onions_61 (by decide) ?_
          refine ko_iload_n (i := 1) dX5_onions_62 rfl rfl ?_
          refine ko_ishl dX5_onions_63 ?_
          refine ko_ior dX5_onions_64 ?_
          refine ko_iast dX5_onions_65 ku_s (in15 (i := 41) (by omega)) ?_
          refine ko_h (ku_ku _ _ _ _) ?_
          refine ko_h (h' := kx_up g1 (m + 5) (ka 43 (upd (clF f1 i j) 41 (pOn u ||| 1 <<< (nI i &&& 31))))) rfl ?_
          refine ko_aload_n (i := 0) dX5_onions_66 rfl rfl ?_
          refine ko_get fl_X5_22 dX5_onions_67 ((ku_n (by omega)).trans n0) rfl ?_
          refine ko_bipush (v := 41) dX5_onions_70 (by decide) ?_
          refine ko_iald dX5_onions_72 ku_s (in15 (i := 41) (by omega)) ?_
          refine ko_st (st' := [.int (upd (clF f1 i j) 41 (pOn u ||| 1 <<< (nI i &&& 31)) 41)]) rfl ?_
          rw [eR.2.2.2.2.2.1]
          refine ko_callSr lk_X5_122 dX5_onions_73 (fn_many (d := d - 1)) rfl rfl (by omega) (by omega) (by omega) (Nat.le_of_ble_eq_true rfl) ?_
          refine ko_iret dX5_onions_76 rfl (Nat.le_of_ble_eq_true rfl) (Nat.le_of_ble_eq_true rfl) ?_
          rw [(mn_W (WF_on hw hi hj)).2]
        · exact absurd c_33 (by rw [ho]; decide)
      · exact absurd c_18 (by rw [hasT hn5 hj]; decide)
set_option maxRecDepth 20000 in
theorem y_week {G : kx_G} {d N m : Nat} {h : kx_H} {T : Nat → Int32} {L : Nat} {u : PU} {n C : Nat} {Ac K : Nat → PU} {kf : Nat → Int32} {sd : Int64}   (hM : kM h m T L u n C Ac K kf sd) (hw : WF u n) (hd : 20 ≤ d) : ∃ g, kx_Fn mX5_week d 0 0 G [.ref m] N h (some (.int (pWk (pwU u n))), N, g) ∧ kM g m T L (pwU u n) n (rmC C) (rmA C Ac u) K kf sd ∧ kFr h g m 10 := by
  obtain ⟨o, Kf, f, tr, rp, rk, bk, kp, zk, va, hi9, r1, r2, r3, r4, r5, r6, r7, r8, r9, rC, rL⟩ := id hM
  obtain ⟨m0, m1, m2, m3, m4, m5, m6, m7, m8, m9, m10⟩ := id hi9
  have hn5 := hw.2.1
  obtain ⟨p1, p2, p3, p4, p5, p6, p7⟩ := id r6
  obtain ⟨g1, hg1, M1, fr1⟩ := sys_note (G := G) (N := N) (d := d - 1) hM
  obtain ⟨o1, Kf1, f1, tr1, rp1, rk1, bk1, kp1, zk1, va1, hj9, hr9⟩ := id M1
  obtain ⟨n0, n1, n2, n3, n4, n5, n6, n7, n8, n9, n10⟩ := id hj9
  obtain ⟨q1, q2, q3, q4, q5, q6, q7, q8, q9, qC, qL⟩ := id hr9
  have eR := gwG_R q6 hw
  have fr : kFr h (kx_up g1 (m + 5) (ka 43 (gwG f1 n))) m 10 := fr1.tr (kFr.up (by omega))
  refine ⟨(kx_up g1 (m + 5) (ka 43 (gwG f1 n))), kx_Fn_of rfl (Nat.le_of_ble_eq_true rfl) rfl ?_ (kM_dom hM fr), kM_page hj9 hr9 (kd_pw u _) eR, fr⟩
  · refine ko_aload_n (i := 0) dX5_week_0 rfl rfl ?_
    refine ko_iconst (v := 0) dX5_week_1 (by decide) ?_
    refine ko_put fl_X5_41 dX5_week_2 m0 rfl rfl (Nat.le_of_ble_eq_true rfl) ?_
    refine ko_h (ku_same m0) ?_
    refine ko_aload_n (i := 0) dX5_week_5 rfl rfl ?_
    refine ko_callVv lk_X5_115 dX5_week_6 hg1 rfl rfl m0 rfl rfl (by omega) (by omega) (by omega) (Nat.le_of_ble_eq_true rfl) ?_
    refine ko_aload_n (i := 0) dX5_week_9 rfl rfl ?_
    refine ko_aload_n (i := 0) dX5_week_10 rfl rfl ?_
    refine ko_get fl_X5_22 dX5_week_11 n0 rfl ?_
    refine ko_callVv lk_X5_129 dX5_week_14 (fn_mgoWeek (d := d - 1) n0 q2 hn5 n5) rfl rfl n0 rfl rfl (by omega) (by omega) (by omega) (Nat.le_of_ble_eq_true rfl) ?_
    refine ko_aload_n (i := 0) dX5_week_17 rfl rfl ?_
    refine ko_get fl_X5_22 dX5_week_18 ((ku_n (by omega)).trans n0) rfl ?_
    refine ko_bipush (v := 42) dX5_week_21 (by decide) ?_
    refine ko_iald dX5_week_23 ku_s (in15 (i := 42) (by omega)) ?_
    refine ko_st (st' := [.int (gwG f1 n 42)]) rfl ?_
    rw [eR.2.2.2.2.2.2]
    refine ko_iret dX5_week_24 rfl (Nat.le_of_ble_eq_true rfl) (Nat.le_of_ble_eq_true rfl) ?_
    rfl
