/-! ===== the reference: waiting, whom nobody weeps for, rings, what is weighed, rests ===== -/
def tlF (f : Nat → Int32) (n : Nat) : Nat → (Nat → Int32)
  | 0 => f
  | i + 1 => gwG (tlF f n i) n
def tlT (f : Nat → Int32) (u : PU) (n : Nat) (p q : Int32) : Nat → Nat → (Nat → Int32)
  | 0, i => tlF f n i
  | k + 1, i => if mayI (pwN u n i) p q = true then tlF f n i else tlT f u n p q k (i + 1)
theorem WF_pwN {u : PU} {n : Nat} (hw : WF u n) : ∀ i, WF (pwN u n i) n
  | 0 => hw
  | i + 1 => WF_pw (WF_pwN hw i)
theorem tlF_R {f : Nat → Int32} {u : PU} {n : Nat} (hp : pgR f u) (hw : WF u n) : ∀ i, pgR (tlF f n i) (pwN u n i)
  | 0 => hp
  | i + 1 => gwG_R (tlF_R hp hw i) (WF_pwN hw i)
theorem kd_pwN (u : PU) (n : Nat) : ∀ i, pKd (pwN u n i) = pKd u
  | 0 => rfl
  | i + 1 => (kd_pw _ n).trans (kd_pwN u n i)
set_option maxRecDepth 20000 in
theorem y_till0 {G : kx_G} {d N m : Nat} {h : kx_H} {T : Nat → Int32} {L : Nat} {u : PU} {n C : Nat} {Ac K : Nat → PU} {kf : Nat → Int32} {sd : Int64} {p q : Int32} (ok : (hasI (pN u) p && hasI (pN u) q) = false) (hM : kM h m T L u n C Ac K kf sd) (hw : WF u n) (hd : 20 ≤ d) : kx_Fn mX5_till d 0 0 G [.ref m, .int p, .int q] N h (some (.int (-1)), N, h) := by
  refine kx_Fn_of rfl (Nat.le_of_ble_eq_true rfl) rfl ?_ (kx_self)
  obtain ⟨o, Kf, f, tr, rp, rk, bk, kp, zk, va, hi9, r1, r2, r3, r4, r5, r6, r7, r8, r9, rC, rL⟩ := id hM
  obtain ⟨m0, m1, m2, m3, m4, m5, m6, m7, m8, m9, m10⟩ := id hi9
  have hn5 := hw.2.1
  obtain ⟨p1, p2, p3, p4, p5, p6, p7⟩ := id r6
  refine ko_aload_n (i := 0) dX5_till_0 rfl rfl ?_
  refine ko_iconst (v := 0) dX5_till_1 (by decide) ?_
  refine ko_put fl_X5_41 dX5_till_2 m0 rfl rfl (Nat.le_of_ble_eq_true rfl) ?_
  refine ko_h (ku_same m0) ?_
  refine ko_aload_n (i := 0) dX5_till_5 rfl rfl ?_
  refine ko_iload_n (i := 1) dX5_till_6 rfl rfl ?_
  refine ko_callVr lk_X5_108 dX5_till_7 (fn_noPerson (d := d - 1) m0 r2 hn5 (by omega)) rfl rfl m0 rfl rfl (by omega) (by omega) (by omega) (Nat.le_of_ble_eq_true rfl) ?_
  first | refine ko_ifb_ne (tgt := 21) dX5_till_10 (by decide) (fun c_10 => ?_) (fun c_10 => ?_) | refine ko_if_ne (tgt := 21) dX5_till_10 (by decide) (fun c_10 => ?_) (fun c_10 => ?_)
  · have h_10 : hasI (nI n) p = false := by
      rw [Bool.not_eq_true'] at c_10
      exact c_10
    refine ko_iconst (v := (-1)) dX5_till_21 (by decide) ?_
    refine ko_iret dX5_till_22 rfl (Nat.le_of_ble_eq_true rfl) (Nat.le_of_ble_eq_true rfl) ?_
    rfl
  · have h_10 : hasI (nI n) p = true := by
      rw [Bool.not_eq_false'] at c_10
      exact c_10
    refine ko_aload_n (i := 0) dX5_till_13 rfl rfl ?_
    refine ko_iload_n (i := 2) dX5_till_14 rfl rfl ?_
    refine ko_callVr lk_X5_108 dX5_till_15 (fn_noPerson (d := d - 1) m0 r2 hn5 (by omega)) rfl rfl m0 rfl rfl (by omega) (by omega) (by omega) (Nat.le_of_ble_eq_true rfl) ?_
    first | refine ko_ifb_eq (tgt := 23) dX5_till_18 (by decide) (fun c_18 => ?_) (fun c_18 => ?_) | refine ko_if_eq (tgt := 23) dX5_till_18 (by decide) (fun c_18 => ?_) (fun c_18 => ?_)
    · have h_18 : hasI (nI n) q = true := by
        rw [Bool.not_eq_false'] at c_18
        exact c_18
      exact absurd ok (by rw [hw.1, h_10, h_18]; decide)
    · have h_18 : hasI (nI n) q = false := by
        rw [Bool.not_eq_true'] at c_18
        exact c_18
      refine ko_iconst (v := (-1)) dX5_till_21 (by decide) ?_
      refine ko_iret dX5_till_22 rfl (Nat.le_of_ble_eq_true rfl) (Nat.le_of_ble_eq_true rfl) ?_
      rfl
set_option maxRecDepth 20000 in
theorem y_till1 {G : kx_G} {d N m : Nat} {h : kx_H} {T : Nat → Int32} {L : Nat} {u : PU} {n C : Nat} {Ac K : Nat → PU} {kf : Nat → Int32} {sd : Int64} {i j : Nat} (hi : i < n) (hj : j < n)  (hM : kM h m T L u n C Ac K kf sd) (hw : WF u n) (hd : 20 ≤ d) : ∃ g, kx_Fn mX5_till d 0 0 G [.ref m, .int (nI i), .int (nI j)] N h (some (.int (tiI u n (nI i) (nI j) 10 0)), N, g) ∧ kM g m T L u n C Ac K kf sd ∧ kFr h g m 10 := by
  obtain ⟨o, Kf, f, tr, rp, rk, bk, kp, zk, va, hi9, r1, r2, r3, r4, r5, r6, r7, r8, r9, rC, rL⟩ := id hM
  obtain ⟨m0, m1, m2, m3, m4, m5, m6, m7, m8, m9, m10⟩ := id hi9
  have hn5 := hw.2.1
  obtain ⟨p1, p2, p3, p4, p5, p6, p7⟩ := id r6
  have fr : kFr h (kx_up h (m + 6) (ka 43 (tlT f u n (nI i) (nI j) 10 0))) m 10 := kFr.up (by omega)
  refine ⟨(kx_up h (m + 6) (ka 43 (tlT f u n (nI i) (nI j) 10 0))), kx_Fn_of rfl (Nat.le_of_ble_eq_true rfl) rfl ?_ (kM_dom hM fr), ⟨o, Kf, f, _, rp, rk, bk, kp, zk, va, kMi_tr hi9 _, r1, r2, r3, r4, r5, r6, r7, r8, r9, rC, rL⟩, fr⟩
  · have LOOP : ∀ (k k9 : Nat), k + k9 = 10 → kx_Ok mX5_till d 0 0 G 0 0 29 [(0, .ref m), (1, .int (nI i)), (2, .int (nI j)), (3, .int (nI k9))] [] N (kx_up h (m + 6) (ka 43 (tlF f n k9))) (some (.int (tiI u n (nI i) (nI j) k k9)), N, kx_up h (m + 6) (ka 43 (tlT f u n (nI i) (nI j) k k9))) := by
      intro k
      induction k with
      | zero =>
        intro k9 hi9
        obtain rfl : k9 = 10 := by omega
        refine ko_iload_n (i := 3) dX5_till_29 rfl rfl ?_
        refine ko_bipush (v := 9) dX5_till_30 (by decide) ?_
        refine ko_icmp_gt (tgt := 64) dX5_till_32 (by decide) (fun c_32 => ?_) (fun c_32 => ?_)
        · refine ko_bipush (v := (-9)) dX5_till_64 (by decide) ?_
          refine ko_iret dX5_till_66 rfl (Nat.le_of_ble_eq_true rfl) (Nat.le_of_ble_eq_true rfl) ?_
          rfl
        · exact absurd (show nI 9 < nI 10 from nI_lt (by omega) (by omega)) c_32
      | succ k ih =>
        intro k9 hi9
        refine ko_iload_n (i := 3) dX5_till_29 rfl rfl ?_
        refine ko_bipush (v := 9) dX5_till_30 (by decide) ?_
        refine ko_icmp_gt (tgt := 64) dX5_till_32 (by decide) (fun c_32 => ?_) (fun c_32 => ?_)
        · exact absurd (show nI 9 < nI k9 from c_32) (nI_nlt (by omega) (by omega))
        · refine ko_aload_n (i := 0) dX5_till_35 rfl rfl ?_
          refine ko_aload_n (i := 0) dX5_till_36 rfl rfl ?_
          refine ko_get fl_X5_25 dX5_till_37 ((ku_n (by omega)).trans m0) rfl ?_
          refine ko_iload_n (i := 1) dX5_till_40 rfl rfl ?_
          refine ko_iload_n (i := 2) dX5_till_41 rfl rfl ?_
          refine ko_callVr lk_X5_105 dX5_till_42 (fn_mmayWeep (d := d - 1) ((ku_n (by omega)).trans m0) ((ku_n (by omega)).trans m2) (fun j hj => (r5 j hj).trans (congrFun (kd_pwN u n k9).symm j)) ku_s (tlF_R r6 hw k9) (WF_pwN hw k9) hi hj (by omega)) rfl rfl ((ku_n (by omega)).trans m0) rfl rfl (by omega) (by omega) (by omega) (Nat.le_of_ble_eq_true rfl) ?_
          first | refine ko_ifb_eq (tgt := 50) dX5_till_45 (by decide) (fun c_45 => ?_) (fun c_45 => ?_) | refine ko_if_eq (tgt := 50) dX5_till_45 (by decide) (fun c_45 => ?_) (fun c_45 => ?_)
          · refine ko_aload_n (i := 0) dX5_till_50 rfl rfl ?_
            refine ko_aload_n (i := 0) dX5_till_51 rfl rfl ?_
            refine ko_get fl_X5_25 dX5_till_52 ((ku_n (by omega)).trans m0) rfl ?_
            refine ko_callVv lk_X5_129 dX5_till_55 (fn_mgoWeek (d := d - 1) ((ku_n (by omega)).trans m0) r2 hn5 ku_s) rfl rfl ((ku_n (by omega)).trans m0) rfl rfl (by omega) (by omega) (by omega) (Nat.le_of_ble_eq_true rfl) ?_
            refine ko_h (ku_ku _ _ _ _) ?_
            refine ko_inc1 (i := 3) (lv' := [(0, _), (1, _), (2, _), (3, _)]) dX5_till_58 rfl (by decide) rfl rfl rfl ?_
            refine ko_goto (tgt := 29) dX5_till_61 (by decide) ?_
            simp only [tiI, tlT, c_45, Bool.false_eq_true, if_false]
            exact ko_lv (by rw [nI_succ]) (ih (k9 + 1) (by omega))
          · refine ko_iload_n (i := 3) dX5_till_48 rfl rfl ?_
            refine ko_iret dX5_till_49 rfl (Nat.le_of_ble_eq_true rfl) (Nat.le_of_ble_eq_true rfl) ?_
            simp only [tiI, tlT, c_45, if_true]
    refine ko_aload_n (i := 0) dX5_till_0 rfl rfl ?_
    refine ko_iconst (v := 0) dX5_till_1 (by decide) ?_
    refine ko_put fl_X5_41 dX5_till_2 m0 rfl rfl (Nat.le_of_ble_eq_true rfl) ?_
    refine ko_h (ku_same m0) ?_
    refine ko_aload_n (i := 0) dX5_till_5 rfl rfl ?_
    refine ko_iload_n (i := 1) dX5_till_6 rfl rfl ?_
    refine ko_callVr lk_X5_108 dX5_till_7 (fn_noPerson (d := d - 1) m0 r2 hn5 (by omega)) rfl rfl m0 rfl rfl (by omega) (by omega) (by omega) (Nat.le_of_ble_eq_true rfl) ?_
    first | refine ko_ifb_ne (tgt := 21) dX5_till_10 (by decide) (fun c_10 => ?_) (fun c_10 => ?_) | refine ko_if_ne (tgt := 21) dX5_till_10 (by decide) (fun c_10 => ?_) (fun c_10 => ?_)
    · exact absurd c_10 (by rw [hasT hn5 hi]; decide)
    · refine ko_aload_n (i := 0) dX5_till_13 rfl rfl ?_
      refine ko_iload_n (i := 2) dX5_till_14 rfl rfl ?_
      refine ko_callVr lk_X5_108 dX5_till_15 (fn_noPerson (d := d - 1) m0 r2 hn5 (by omega)) rfl rfl m0 rfl rfl (by omega) (by omega) (by omega) (Nat.le_of_ble_eq_true rfl) ?_
      first | refine ko_ifb_eq (tgt := 23) dX5_till_18 (by decide) (fun c_18 => ?_) (fun c_18 => ?_) | refine ko_if_eq (tgt := 23) dX5_till_18 (by decide) (fun c_18 => ?_) (fun c_18 => ?_)
      · refine ko_aload_n (i := 0) dX5_till_23 rfl rfl ?_
        refine ko_callVv lk_X5_153 dX5_till_24 (fn_mbegin (d := d - 1) m0 m5 m6) rfl rfl m0 rfl rfl (by omega) (by omega) (by omega) (Nat.le_of_ble_eq_true rfl) ?_
        refine ko_iconst (v := 0) dX5_till_27 (by decide) ?_
        refine ko_istore_n (i := 3) (lv' := [(0, _), (1, _), (2, _), (3, _)]) dX5_till_28 rfl (by decide) rfl rfl rfl ?_
        exact LOOP 10 0 rfl
      · exact absurd c_18 (by rw [hasT hn5 hj]; decide)
set_option maxRecDepth 20000 in
theorem y_nobody0 {G : kx_G} {d N m : Nat} {h : kx_H} {T : Nat → Int32} {L : Nat} {u : PU} {n C : Nat} {Ac K : Nat → PU} {kf : Nat → Int32} {sd : Int64} {w : Int32} (hw0 : inI w 0 1 = false) (hM : kM h m T L u n C Ac K kf sd) (hw : WF u n) (hd : 20 ≤ d) : kx_Fn mX5_nobody d 0 0 G [.ref m, .int w] N h (some (.int (noI u w)), N, h) := by
  refine kx_Fn_of rfl (Nat.le_of_ble_eq_true rfl) rfl ?_ (kx_self)
  obtain ⟨o, Kf, f, tr, rp, rk, bk, kp, zk, va, hi9, r1, r2, r3, r4, r5, r6, r7, r8, r9, rC, rL⟩ := id hM
  obtain ⟨m0, m1, m2, m3, m4, m5, m6, m7, m8, m9, m10⟩ := id hi9
  have hn5 := hw.2.1
  obtain ⟨p1, p2, p3, p4, p5, p6, p7⟩ := id r6
  refine ko_aload_n (i := 0) dX5_nobody_0 rfl rfl ?_
  refine ko_iconst (v := 0) dX5_nobody_1 (by decide) ?_
  refine ko_put fl_X5_41 dX5_nobody_2 m0 rfl rfl (Nat.le_of_ble_eq_true rfl) ?_
  refine ko_h (ku_same m0) ?_
  refine ko_iload_n (i := 1) dX5_nobody_5 rfl rfl ?_
  refine ko_i2l dX5_nobody_6 ?_
  refine ko_lconst (v := 0) dX5_nobody_7 (by decide) ?_
  refine ko_lconst (v := 1) dX5_nobody_8 (by decide) ?_
  refine ko_callSr lk_X5_48 dX5_nobody_9 (fn_in (d := d - 1) (v := w) (a := 0) (b := 1)) rfl rfl (by omega) (by omega) (by omega) (Nat.le_of_ble_eq_true rfl) ?_
  first | refine ko_ifb_ne (tgt := 18) dX5_nobody_12 (by decide) (fun c_12 => ?_) (fun c_12 => ?_) | refine ko_if_ne (tgt := 18) dX5_nobody_12 (by decide) (fun c_12 => ?_) (fun c_12 => ?_)
  · exact absurd c_12 (by rw [hw0]; decide)
  · refine ko_bipush (v := (-2)) dX5_nobody_15 (by decide) ?_
    refine ko_iret dX5_nobody_17 rfl (Nat.le_of_ble_eq_true rfl) (Nat.le_of_ble_eq_true rfl) ?_
    have h0 : ¬ w = 0 := fun z => by subst z; exact absurd hw0 (by decide)
    have h1 : ¬ w = 1 := fun z => by subst z; exact absurd hw0 (by decide)
    unfold noI
    rw [if_neg h0, if_pos h1]
set_option maxRecDepth 20000 in
theorem y_nobody2 {G : kx_G} {d N m : Nat} {h : kx_H} {T : Nat → Int32} {L : Nat} {u : PU} {n C : Nat} {Ac K : Nat → PU} {kf : Nat → Int32} {sd : Int64}  (hM : kM h m T L u n C Ac K kf sd) (hw : WF u n) (hd : 20 ≤ d) : kx_Fn mX5_nobody d 0 0 G [.ref m, .int 1] N h (some (.int (noI u 1)), N, h) := by
  refine kx_Fn_of rfl (Nat.le_of_ble_eq_true rfl) rfl ?_ (kx_self)
  obtain ⟨o, Kf, f, tr, rp, rk, bk, kp, zk, va, hi9, r1, r2, r3, r4, r5, r6, r7, r8, r9, rC, rL⟩ := id hM
  obtain ⟨m0, m1, m2, m3, m4, m5, m6, m7, m8, m9, m10⟩ := id hi9
  have hn5 := hw.2.1
  obtain ⟨p1, p2, p3, p4, p5, p6, p7⟩ := id r6
  have LOOP : ∀ (k q : Nat), k + q = n → kx_Ok mX5_nobody d 0 0 G 0 0 22 [(0, .ref m), (1, .int 1), (2, .int (stI (fun q => decide ((pKn u q ||| 1 <<< (nI q &&& 31)) = evI (nI n))) q)), (3, .int (nI q))] [] N h (some (.int (stI (fun q => decide ((pKn u q ||| 1 <<< (nI q &&& 31)) = evI (nI n))) n)), N, h) := by
    intro k
    induction k with
    | zero =>
      intro q hi
      obtain rfl : n = q := by omega
      refine ko_iload_n (i := 3) dX5_nobody_22 rfl rfl ?_
      refine ko_aload_n (i := 0) dX5_nobody_23 rfl rfl ?_
      refine ko_get fl_X5_45 dX5_nobody_24 m0 rfl ?_
      refine ko_icmp_ge (tgt := 145) dX5_nobody_27 (by decide) (fun c_27 => ?_) (fun c_27 => ?_)
      · refine ko_iload_n (i := 2) dX5_nobody_145 rfl rfl ?_
        refine ko_iret dX5_nobody_146 rfl (Nat.le_of_ble_eq_true rfl) (Nat.le_of_ble_eq_true rfl) ?_
        rfl
      · exact absurd (show mN o ≤ nI n by rw [r2]; exact nI_le (Nat.le_refl _) (by omega)) c_27
    | succ k ih =>
      intro q hi
      refine ko_iload_n (i := 3) dX5_nobody_22 rfl rfl ?_
      refine ko_aload_n (i := 0) dX5_nobody_23 rfl rfl ?_
      refine ko_get fl_X5_45 dX5_nobody_24 m0 rfl ?_
      refine ko_icmp_ge (tgt := 145) dX5_nobody_27 (by decide) (fun c_27 => ?_) (fun c_27 => ?_)
      · exact absurd (show nI n ≤ nI q from by rw [← r2]; exact c_27) (nI_ge (by omega) (by omega))
      · refine ko_iload_n (i := 1) dX5_nobody_30 rfl rfl ?_
        refine ko_iconst (v := 1) dX5_nobody_31 (by decide) ?_
        refine ko_icmp_ne (tgt := 63) dX5_nobody_32 (by decide) (fun c_32 => ?_) (fun c_32 => ?_)
        · exact absurd rfl c_32
        · refine ko_aload_n (i := 0) dX5_nobody_35 rfl rfl ?_
          refine ko_get fl_X5_22 dX5_nobody_36 m0 rfl ?_
          refine ko_bipush (v := 10) dX5_nobody_39 (by decide) ?_
          refine ko_iload_n (i := 3) dX5_nobody_41 rfl rfl ?_
          refine ko_iadd dX5_nobody_42 ?_
          rw [a10]
          refine ko_iald dX5_nobody_43 m5 (in15 (by omega)) ?_
          rw [nI_clamp (by omega), p3 q (by omega)]
          refine ko_iconst (v := 1) dX5_nobody_44 (by decide) ?_
          refine ko_iload_n (i := 3) dX5_nobody_45 rfl rfl ?_
          refine ko_ishl dX5_nobody_46 ?_
          refine ko_ior dX5_nobody_47 ?_
          refine ko_aload_n (i := 0) dX5_nobody_48 rfl rfl ?_
          refine ko_callVr lk_X5_147 dX5_nobody_49 (fn_meveryone (n := n) (d := d - 1) m0) rfl rfl m0 rfl rfl (by omega) (by omega) (by omega) (Nat.le_of_ble_eq_true rfl) ?_
          rw [r2]
          refine ko_icmp_ne (tgt := 59) dX5_nobody_52 (by decide) (fun c_52 => ?_) (fun c_52 => ?_)
          · refine ko_iconst (v := 0) dX5_nobody_59 (by decide) ?_
            refine ko_goto (tgt := 74) dX5_nobody_60 (by decide) ?_
            refine ko_istore (i := 4) (lv' := [(0, _), (1, _), (2, _), (3, _), (4, _)]) dX5_nobody_74 (by decide) rfl rfl rfl ?_
            refine ko_iconst (v := 0) dX5_nobody_76 (by decide) ?_
            refine ko_istore (i := 5) (lv' := [(0, _), (1, _), (2, _), (3, _), (4, _), (5, _)]) dX5_nobody_77 (by decide) rfl rfl rfl ?_
            refine ko_iload (i := 5) dX5_nobody_79 rfl ?_
            refine ko_aload_n (i := 0) dX5_nobody_81 rfl rfl ?_
            refine ko_get fl_X5_45 dX5_nobody_82 m0 rfl ?_
            refine ko_icmp_ge (tgt := 124) dX5_nobody_85 (by decide) (fun c_85 => ?_) (fun c_85 => ?_)
            · refine ko_iload_n (i := 2) dX5_nobody_124 rfl rfl ?_
              refine ko_iload (i := 4) dX5_nobody_125 rfl ?_
              refine ko_if_eq (tgt := 136) dX5_nobody_127 (by decide) (fun c_127 => ?_) (fun c_127 => absurd c_127 (by decide))
              refine ko_iconst (v := 0) dX5_nobody_136 (by decide) ?_
              refine ko_ior dX5_nobody_137 ?_
              refine ko_istore_n (i := 2) (lv' := [(0, _), (1, _), (2, _), (3, _), (4, _), (5, _)]) dX5_nobody_138 rfl (by decide) rfl rfl rfl ?_
              refine ko_inc1 (i := 3) (lv' := [(0, _), (1, _), (2, _), (3, _), (4, _), (5, _)]) dX5_nobody_139 rfl (by decide) rfl rfl rfl ?_
              refine ko_goto (tgt := 22) dX5_nobody_142 (by decide) ?_
              exact ko_keep [0, 1, 2, 3] (lv' := [(0, _), (1, _), (2, _), (3, .int (nI q + 1))]) rfl (ko_lv (by simp [stI, nI_succ, c_27, c_32, c_52, c_85]) (ih (q + 1) (by omega)))
            · refine ko_iload_n (i := 1) dX5_nobody_88 rfl rfl ?_
              first | refine ko_ifb_ne (tgt := 124) dX5_nobody_89 (by decide) (fun c_89 => ?_) (fun c_89 => ?_) | refine ko_if_ne (tgt := 124) dX5_nobody_89 (by decide) (fun c_89 => ?_) (fun c_89 => ?_)
              · refine ko_iload_n (i := 2) dX5_nobody_124 rfl rfl ?_
                refine ko_iload (i := 4) dX5_nobody_125 rfl ?_
                refine ko_if_eq (tgt := 136) dX5_nobody_127 (by decide) (fun c_127 => ?_) (fun c_127 => absurd c_127 (by decide))
                refine ko_iconst (v := 0) dX5_nobody_136 (by decide) ?_
                refine ko_ior dX5_nobody_137 ?_
                refine ko_istore_n (i := 2) (lv' := [(0, _), (1, _), (2, _), (3, _), (4, _), (5, _)]) dX5_nobody_138 rfl (by decide) rfl rfl rfl ?_
                refine ko_inc1 (i := 3) (lv' := [(0, _), (1, _), (2, _), (3, _), (4, _), (5, _)]) dX5_nobody_139 rfl (by decide) rfl rfl rfl ?_
                refine ko_goto (tgt := 22) dX5_nobody_142 (by decide) ?_
                exact ko_keep [0, 1, 2, 3] (lv' := [(0, _), (1, _), (2, _), (3, .int (nI q + 1))]) rfl (ko_lv (by simp [stI, nI_succ, c_27, c_32, c_52, c_85, c_89]) (ih (q + 1) (by omega)))
              · exact absurd c_89 (by decide)
          · refine ko_iconst (v := 1) dX5_nobody_55 (by decide) ?_
            refine ko_goto (tgt := 74) dX5_nobody_56 (by decide) ?_
            refine ko_istore (i := 4) (lv' := [(0, _), (1, _), (2, _), (3, _), (4, _)]) dX5_nobody_74 (by decide) rfl rfl rfl ?_
            refine ko_iconst (v := 0) dX5_nobody_76 (by decide) ?_
            refine ko_istore (i := 5) (lv' := [(0, _), (1, _), (2, _), (3, _), (4, _), (5, _)]) dX5_nobody_77 (by decide) rfl rfl rfl ?_
            refine ko_iload (i := 5) dX5_nobody_79 rfl ?_
            refine ko_aload_n (i := 0) dX5_nobody_81 rfl rfl ?_
            refine ko_get fl_X5_45 dX5_nobody_82 m0 rfl ?_
            refine ko_icmp_ge (tgt := 124) dX5_nobody_85 (by decide) (fun c_85 => ?_) (fun c_85 => ?_)
            · refine ko_iload_n (i := 2) dX5_nobody_124 rfl rfl ?_
              refine ko_iload (i := 4) dX5_nobody_125 rfl ?_
              refine ko_if_eq (tgt := 136) dX5_nobody_127 (by decide) (fun c_127 => absurd c_127 (by decide)) (fun c_127 => ?_)
              refine ko_iconst (v := 1) dX5_nobody_130 (by decide) ?_
              refine ko_iload_n (i := 3) dX5_nobody_131 rfl rfl ?_
              refine ko_ishl dX5_nobody_132 ?_
              refine ko_goto (tgt := 137) dX5_nobody_133 (by decide) ?_
              refine ko_ior dX5_nobody_137 ?_
              refine ko_istore_n (i := 2) (lv' := [(0, _), (1, _), (2, _), (3, _), (4, _), (5, _)]) dX5_nobody_138 rfl (by decide) rfl rfl rfl ?_
              refine ko_inc1 (i := 3) (lv' := [(0, _), (1, _), (2, _), (3, _), (4, _), (5, _)]) dX5_nobody_139 rfl (by decide) rfl rfl rfl ?_
              refine ko_goto (tgt := 22) dX5_nobody_142 (by decide) ?_
              exact ko_keep [0, 1, 2, 3] (lv' := [(0, _), (1, _), (2, _), (3, .int (nI q + 1))]) rfl (ko_lv (by simp [stI, nI_succ, c_27, c_32, c_52, c_85]) (ih (q + 1) (by omega)))
            · refine ko_iload_n (i := 1) dX5_nobody_88 rfl rfl ?_
              first | refine ko_ifb_ne (tgt := 124) dX5_nobody_89 (by decide) (fun c_89 => ?_) (fun c_89 => ?_) | refine ko_if_ne (tgt := 124) dX5_nobody_89 (by decide) (fun c_89 => ?_) (fun c_89 => ?_)
              · refine ko_iload_n (i := 2) dX5_nobody_124 rfl rfl ?_
                refine ko_iload (i := 4) dX5_nobody_125 rfl ?_
                refine ko_if_eq (tgt := 136) dX5_nobody_127 (by decide) (fun c_127 => absurd c_127 (by decide)) (fun c_127 => ?_)
                refine ko_iconst (v := 1) dX5_nobody_130 (by decide) ?_
                refine ko_iload_n (i := 3) dX5_nobody_131 rfl rfl ?_
                refine ko_ishl dX5_nobody_132 ?_
                refine ko_goto (tgt := 137) dX5_nobody_133 (by decide) ?_
                refine ko_ior dX5_nobody_137 ?_
                refine ko_istore_n (i := 2) (lv' := [(0, _), (1, _), (2, _), (3, _), (4, _), (5, _)]) dX5_nobody_138 rfl (by decide) rfl rfl rfl ?_
                refine ko_inc1 (i := 3) (lv' := [(0, _), (1, _), (2, _), (3, _), (4, _), (5, _)]) dX5_nobody_139 rfl (by decide) rfl rfl rfl ?_
                refine ko_goto (tgt := 22) dX5_nobody_142 (by decide) ?_
                exact ko_keep [0, 1, 2, 3] (lv' := [(0, _), (1, _), (2, _), (3, .int (nI q + 1))]) rfl (ko_lv (by simp [stI, nI_succ, c_27, c_32, c_52, c_85, c_89]) (ih (q + 1) (by omega)))
              · exact absurd c_89 (by decide)
  refine ko_aload_n (i := 0) dX5_nobody_0 rfl rfl ?_
  refine ko_iconst (v := 0) dX5_nobody_1 (by decide) ?_
  refine ko_put fl_X5_41 dX5_nobody_2 m0 rfl rfl (Nat.le_of_ble_eq_true rfl) ?_
  refine ko_h (ku_same m0) ?_
  refine ko_iload_n (i := 1) dX5_nobody_5 rfl rfl ?_
  refine ko_i2l dX5_nobody_6 ?_
  refine ko_lconst (v := 0) dX5_nobody_7 (by decide) ?_
  refine ko_lconst (v := 1) dX5_nobody_8 (by decide) ?_
  refine ko_callSr lk_X5_48 dX5_nobody_9 (fn_in (d := d - 1) (v := 1) (a := 0) (b := 1)) rfl rfl (by omega) (by omega) (by omega) (Nat.le_of_ble_eq_true rfl) ?_
  first | refine ko_ifb_ne (tgt := 18) dX5_nobody_12 (by decide) (fun c_12 => ?_) (fun c_12 => ?_) | refine ko_if_ne (tgt := 18) dX5_nobody_12 (by decide) (fun c_12 => ?_) (fun c_12 => ?_)
  · refine ko_iconst (v := 0) dX5_nobody_18 (by decide) ?_
    refine ko_istore_n (i := 2) (lv' := [(0, _), (1, _), (2, _)]) dX5_nobody_19 rfl (by decide) rfl rfl rfl ?_
    refine ko_iconst (v := 0) dX5_nobody_20 (by decide) ?_
    refine ko_istore_n (i := 3) (lv' := [(0, _), (1, _), (2, _), (3, _)]) dX5_nobody_21 rfl (by decide) rfl rfl rfl ?_
    rw [show noI u 1 = kaI u 5 from rfl, ka_eq hw]
    exact LOOP n 0 (by omega)
  · exact absurd c_12 (by decide)
set_option maxRecDepth 20000 in
theorem y_nobody1 {G : kx_G} {d N m : Nat} {h : kx_H} {T : Nat → Int32} {L : Nat} {u : PU} {n C : Nat} {Ac K : Nat → PU} {kf : Nat → Int32} {sd : Int64}  (hM : kM h m T L u n C Ac K kf sd) (hw : WF u n) (hd : 20 ≤ d) : kx_Fn mX5_nobody d 0 0 G [.ref m, .int 0] N h (some (.int (noI u 0)), N, h) := by
  refine kx_Fn_of rfl (Nat.le_of_ble_eq_true rfl) rfl ?_ (kx_self)
  obtain ⟨o, Kf, f, tr, rp, rk, bk, kp, zk, va, hi9, r1, r2, r3, r4, r5, r6, r7, r8, r9, rC, rL⟩ := id hM
  obtain ⟨m0, m1, m2, m3, m4, m5, m6, m7, m8, m9, m10⟩ := id hi9
  have hn5 := hw.2.1
  obtain ⟨p1, p2, p3, p4, p5, p6, p7⟩ := id r6
  have LOOP : ∀ (k q : Nat), k + q = n → kx_Ok mX5_nobody d 0 0 G 0 0 22 [(0, .ref m), (1, .int 0), (2, .int (stI (fun q => nbJ u q n) q)), (3, .int (nI q))] [] N h (some (.int (stI (fun q => nbJ u q n) n)), N, h) := by
    intro k
    induction k with
    | zero =>
      intro q hi
      obtain rfl : n = q := by omega
      refine ko_iload_n (i := 3) dX5_nobody_22 rfl rfl ?_
      refine ko_aload_n (i := 0) dX5_nobody_23 rfl rfl ?_
      refine ko_get fl_X5_45 dX5_nobody_24 m0 rfl ?_
      refine ko_icmp_ge (tgt := 145) dX5_nobody_27 (by decide) (fun c_27 => ?_) (fun c_27 => ?_)
      · refine ko_iload_n (i := 2) dX5_nobody_145 rfl rfl ?_
        refine ko_iret dX5_nobody_146 rfl (Nat.le_of_ble_eq_true rfl) (Nat.le_of_ble_eq_true rfl) ?_
        rfl
      · exact absurd (show mN o ≤ nI n by rw [r2]; exact nI_le (Nat.le_refl _) (by omega)) c_27
    | succ k ih =>
      intro q hi
      have LIN : ∀ (kp9 p : Nat), kp9 + p = n → kx_Ok mX5_nobody d 0 0 G 0 0 79 [(0, .ref m), (1, .int 0), (2, .int (stI (fun q => nbJ u q n) q)), (3, .int (nI q)), (4, .int (kb (nbJ u q p))), (5, .int (nI p))] [] N h (some (.int (stI (fun q => nbJ u q n) n)), N, h) := by
        intro kp9
        induction kp9 with
        | zero =>
          intro p hi
          obtain rfl : n = p := by omega
          refine ko_iload (i := 5) dX5_nobody_79 rfl ?_
          refine ko_aload_n (i := 0) dX5_nobody_81 rfl rfl ?_
          refine ko_get fl_X5_45 dX5_nobody_82 m0 rfl ?_
          refine ko_icmp_ge (tgt := 124) dX5_nobody_85 (by decide) (fun c_85 => ?_) (fun c_85 => ?_)
          · refine ko_iload_n (i := 2) dX5_nobody_124 rfl rfl ?_
            refine ko_iload (i := 4) dX5_nobody_125 rfl ?_
            first | refine ko_ifb_eq (tgt := 136) dX5_nobody_127 (by decide) (fun c_127 => ?_) (fun c_127 => ?_) | refine ko_if_eq (tgt := 136) dX5_nobody_127 (by decide) (fun c_127 => ?_) (fun c_127 => ?_)
            · refine ko_iconst (v := 0) dX5_nobody_136 (by decide) ?_
              refine ko_ior dX5_nobody_137 ?_
              refine ko_istore_n (i := 2) (lv' := [(0, _), (1, _), (2, _), (3, _), (4, _), (5, _)]) dX5_nobody_138 rfl (by decide) rfl rfl rfl ?_
              refine ko_inc1 (i := 3) (lv' := [(0, _), (1, _), (2, _), (3, _), (4, _), (5, _)]) dX5_nobody_139 rfl (by decide) rfl rfl rfl ?_
              refine ko_goto (tgt := 22) dX5_nobody_142 (by decide) ?_
              exact ko_keep [0, 1, 2, 3] (lv' := [(0, _), (1, _), (2, _), (3, .int (nI q + 1))]) rfl (ko_lv (by simp [stI, nI_succ, c_85, c_127]) (ih (q + 1) (by omega)))
            · refine ko_iconst (v := 1) dX5_nobody_130 (by decide) ?_
              refine ko_iload_n (i := 3) dX5_nobody_131 rfl rfl ?_
              refine ko_ishl dX5_nobody_132 ?_
              refine ko_goto (tgt := 137) dX5_nobody_133 (by decide) ?_
              refine ko_ior dX5_nobody_137 ?_
              refine ko_istore_n (i := 2) (lv' := [(0, _), (1, _), (2, _), (3, _), (4, _), (5, _)]) dX5_nobody_138 rfl (by decide) rfl rfl rfl ?_
              refine ko_inc1 (i := 3) (lv' := [(0, _), (1, _), (2, _), (3, _), (4, _), (5, _)]) dX5_nobody_139 rfl (by decide) rfl rfl rfl ?_
              refine ko_goto (tgt := 22) dX5_nobody_142 (by decide) ?_
              exact ko_keep [0, 1, 2, 3] (lv' := [(0, _), (1, _), (2, _), (3, .int (nI q + 1))]) rfl (ko_lv (by simp [stI, nI_succ, c_85, c_127]) (ih (q + 1) (by omega)))
          · exact absurd (show mN o ≤ nI n by rw [r2]; exact nI_le (Nat.le_refl _) (by omega)) c_85
        | succ kp9 ihp =>
          intro p hi
          refine ko_iload (i := 5) dX5_nobody_79 rfl ?_
          refine ko_aload_n (i := 0) dX5_nobody_81 rfl rfl ?_
          refine ko_get fl_X5_45 dX5_nobody_82 m0 rfl ?_
          refine ko_icmp_ge (tgt := 124) dX5_nobody_85 (by decide) (fun c_85 => ?_) (fun c_85 => ?_)
          · exact absurd (show nI n ≤ nI p from by rw [← r2]; exact c_85) (nI_ge (by omega) (by omega))
          · refine ko_iload_n (i := 1) dX5_nobody_88 rfl rfl ?_
            first | refine ko_ifb_ne (tgt := 124) dX5_nobody_89 (by decide) (fun c_89 => ?_) (fun c_89 => ?_) | refine ko_if_ne (tgt := 124) dX5_nobody_89 (by decide) (fun c_89 => ?_) (fun c_89 => ?_)
            · exact absurd rfl c_89
            · refine ko_iload (i := 4) dX5_nobody_92 rfl ?_
              first | refine ko_ifb_eq (tgt := 115) dX5_nobody_94 (by decide) (fun c_94 => ?_) (fun c_94 => ?_) | refine ko_if_eq (tgt := 115) dX5_nobody_94 (by decide) (fun c_94 => ?_) (fun c_94 => ?_)
              · refine ko_iconst (v := 0) dX5_nobody_115 (by decide) ?_
                refine ko_istore (i := 4) (lv' := [(0, _), (1, _), (2, _), (3, _), (4, _), (5, _)]) dX5_nobody_116 (by decide) rfl rfl rfl ?_
                refine ko_inc1 (i := 5) (lv' := [(0, _), (1, _), (2, _), (3, _), (4, _), (5, _)]) dX5_nobody_118 rfl (by decide) rfl rfl rfl ?_
                refine ko_goto (tgt := 79) dX5_nobody_121 (by decide) ?_
                exact ko_lv (by simp [nbJ, kb, nI_succ, c_85, c_89, c_94]) (ihp (p + 1) (by omega))
              · refine ko_aload_n (i := 0) dX5_nobody_97 rfl rfl ?_
                refine ko_aload_n (i := 0) dX5_nobody_98 rfl rfl ?_
                refine ko_get fl_X5_22 dX5_nobody_99 m0 rfl ?_
                refine ko_iload (i := 5) dX5_nobody_102 rfl ?_
                refine ko_iload_n (i := 3) dX5_nobody_104 rfl rfl ?_
                refine ko_callVr lk_X5_105 dX5_nobody_105 (fn_mmayWeep (d := d - 1) m0 m2 r5 m5 r6 hw (show p < n by omega) (show q < n by omega) (by omega)) rfl rfl m0 rfl rfl (by omega) (by omega) (by omega) (Nat.le_of_ble_eq_true rfl) ?_
                first | refine ko_ifb_ne (tgt := 115) dX5_nobody_108 (by decide) (fun c_108 => ?_) (fun c_108 => ?_) | refine ko_if_ne (tgt := 115) dX5_nobody_108 (by decide) (fun c_108 => ?_) (fun c_108 => ?_)
                · refine ko_iconst (v := 0) dX5_nobody_115 (by decide) ?_
                  refine ko_istore (i := 4) (lv' := [(0, _), (1, _), (2, _), (3, _), (4, _), (5, _)]) dX5_nobody_116 (by decide) rfl rfl rfl ?_
                  refine ko_inc1 (i := 5) (lv' := [(0, _), (1, _), (2, _), (3, _), (4, _), (5, _)]) dX5_nobody_118 rfl (by decide) rfl rfl rfl ?_
                  refine ko_goto (tgt := 79) dX5_nobody_121 (by decide) ?_
                  exact ko_lv (by simp [nbJ, kb, nI_succ, c_85, c_89, c_94, c_108]) (ihp (p + 1) (by omega))
                · refine ko_iconst (v := 1) dX5_nobody_111 (by decide) ?_
                  refine ko_goto (tgt := 116) dX5_nobody_112 (by decide) ?_
                  refine ko_istore (i := 4) (lv' := [(0, _), (1, _), (2, _), (3, _), (4, _), (5, _)]) dX5_nobody_116 (by decide) rfl rfl rfl ?_
                  refine ko_inc1 (i := 5) (lv' := [(0, _), (1, _), (2, _), (3, _), (4, _), (5, _)]) dX5_nobody_118 rfl (by decide) rfl rfl rfl ?_
                  refine ko_goto (tgt := 79) dX5_nobody_121 (by decide) ?_
                  exact ko_lv (by simp [nbJ, kb, nI_succ, c_85, c_89, c_94, c_108]) (ihp (p + 1) (by omega))
      refine ko_iload_n (i := 3) dX5_nobody_22 rfl rfl ?_
      refine ko_aload_n (i := 0) dX5_nobody_23 rfl rfl ?_
      refine ko_get fl_X5_45 dX5_nobody_24 m0 rfl ?_
      refine ko_icmp_ge (tgt := 145) dX5_nobody_27 (by decide) (fun c_27 => ?_) (fun c_27 => ?_)
      · exact absurd (show nI n ≤ nI q from by rw [← r2]; exact c_27) (nI_ge (by omega) (by omega))
      · refine ko_iload_n (i := 1) dX5_nobody_30 rfl rfl ?_
        refine ko_iconst (v := 1) dX5_nobody_31 (by decide) ?_
        refine ko_icmp_ne (tgt := 63) dX5_nobody_32 (by decide) (fun c_32 => ?_) (fun c_32 => ?_)
        · refine ko_aload_n (i := 0) dX5_nobody_63 rfl rfl ?_
          refine ko_get fl_X5_22 dX5_nobody_64 m0 rfl ?_
          refine ko_bipush (v := 15) dX5_nobody_67 (by decide) ?_
          refine ko_iald dX5_nobody_69 m5 (in15 (i := 15) (by omega)) ?_
          refine ko_st (st' := [.int (f 15)]) rfl ?_
          rw [p4]
          refine ko_iload_n (i := 3) dX5_nobody_70 rfl rfl ?_
          refine ko_callSr lk_X5_63 dX5_nobody_71 (fn_mhas (by omega)) rfl rfl (by omega) (by omega) (by omega) (Nat.le_of_ble_eq_true rfl) ?_
          refine ko_istore (i := 4) (lv' := [(0, _), (1, _), (2, _), (3, _), (4, _)]) dX5_nobody_74 (by decide) rfl rfl rfl ?_
          refine ko_iconst (v := 0) dX5_nobody_76 (by decide) ?_
          refine ko_istore (i := 5) (lv' := [(0, _), (1, _), (2, _), (3, _), (4, _), (5, _)]) dX5_nobody_77 (by decide) rfl rfl rfl ?_
          exact LIN n 0 (by omega)
        · exact absurd c_32 (by decide)
  refine ko_aload_n (i := 0) dX5_nobody_0 rfl rfl ?_
  refine ko_iconst (v := 0) dX5_nobody_1 (by decide) ?_
  refine ko_put fl_X5_41 dX5_nobody_2 m0 rfl rfl (Nat.le_of_ble_eq_true rfl) ?_
  refine ko_h (ku_same m0) ?_
  refine ko_iload_n (i := 1) dX5_nobody_5 rfl rfl ?_
  refine ko_i2l dX5_nobody_6 ?_
  refine ko_lconst (v := 0) dX5_nobody_7 (by decide) ?_
  refine ko_lconst (v := 1) dX5_nobody_8 (by decide) ?_
  refine ko_callSr lk_X5_48 dX5_nobody_9 (fn_in (d := d - 1) (v := 0) (a := 0) (b := 1)) rfl rfl (by omega) (by omega) (by omega) (Nat.le_of_ble_eq_true rfl) ?_
  first | refine ko_ifb_ne (tgt := 18) dX5_nobody_12 (by decide) (fun c_12 => ?_) (fun c_12 => ?_) | refine ko_if_ne (tgt := 18) dX5_nobody_12 (by decide) (fun c_12 => ?_) (fun c_12 => ?_)
  · refine ko_iconst (v := 0) dX5_nobody_18 (by decide) ?_
    refine ko_istore_n (i := 2) (lv' := [(0, _), (1, _), (2, _)]) dX5_nobody_19 rfl (by decide) rfl rfl rfl ?_
    refine ko_iconst (v := 0) dX5_nobody_20 (by decide) ?_
    refine ko_istore_n (i := 3) (lv' := [(0, _), (1, _), (2, _), (3, _)]) dX5_nobody_21 rfl (by decide) rfl rfl rfl ?_
    rw [show noI u 0 = uwI u 5 from rfl, uw_eq hw]
    exact LOOP n 0 (by omega)
  · exact absurd c_12 (by decide)
