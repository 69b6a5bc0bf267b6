/-! ===== the reference: served, shares ===== -/
theorem serve_u {u : PU} {n : Nat} {bY f0 : Int32} (hw : WF u n) (hb : ∀ p, p < n → (hbI bY (nI p) && !hbI (pOp u) (nI p)) = hbI f0 (nI p)) : blk u n bY n 0 0 0 0 (Mk u n n) (Mk u n n) (pOp u, -9, 9999, 0) = seU u (pOp u) f0 :=
  serve_eq hw hw (fun p hp q hq h => by
    rw [← hb p hp]
    unfold mayI
    rw [h]
    cases hbI bY (nI p) <;> cases hbI (pOp u) (nI p) <;> cases fitI u (nI p) (nI q) <;> rfl) (fun _ _ _ => rfl)
theorem unb_bit {u : PU} {n p : Nat} (hw : WF u n) (hp : p < n) : (hbI (evI (nI n)) (nI p) && !hbI (pOp u) (nI p)) = hbI (unbI u) (nI p) := by
  have h5 := hw.2.1
  unfold unbI
  rw [hw.1, hb_and _ _ p (by omega), hb_not _ p (by omega)]
theorem fH_fH {h : kx_H} {m : Nat} {o : MO} {s S : SU} : fH (fH h m o s) m (mTs o, mPl o, mN o, mRp o, mAc o, mSd o, s.2.1, s.2.2.1, s.2.2.2, mRm o, mRf o) S = fH h m o S := ku_ku _ _ _ _
theorem fH_up {h : kx_H} {m a : Nat} {o : MO} {S : SU} {e e' : va_E} (ha : a ≠ m) : kx_up (fH (kx_up h a e) m o S) a e' = fH (kx_up h a e') m o S := by
  unfold fH
  rw [ku_two _ _ _ (Ne.symm ha), ku_ku]
theorem fH_self {h : kx_H} {m : Nat} {o : MO} (o0 : h m = some (kmo m o)) : fH h m o (0, mSm o, mSo o, mSw o) = h := ku_same o0
set_option maxRecDepth 20000 in
theorem y_served0 {G : kx_G} {d N m : Nat} {h : kx_H} {T : Nat → Int32} {L : Nat} {u : PU} {n C : Nat} {Ac K : Nat → PU} {kf : Nat → Int32} {sd : Int64} {w : Int32} (hw0 : w < 0 ∨ ¬ w ≤ 2) (hM : kM h m T L u n C Ac K kf sd) (hw : WF u n) (hd : 20 ≤ d) : kx_Fn mX5_served d 0 0 G [.ref m, .int w] N h (some (.int (-2)), N, h) := by
  refine kx_Fn_of rfl (Nat.le_of_ble_eq_true rfl) rfl ?_ (kx_self)
  obtain ⟨o, Kf, f, tr, rp, rk, bk, kp, zk, va, hi9, r1, r2, r3, r4, r5, r6, r7, r8, r9, rC, rL⟩ := id hM
  obtain ⟨m0, m1, m2, m3, m4, m5, m6, m7, m8, m9, m10⟩ := id hi9
  have hn5 := hw.2.1
  obtain ⟨p1, p2, p3, p4, p5, p6, p7⟩ := id r6
  refine ko_aload_n (i := 0) dX5_served_0 rfl rfl ?_
  refine ko_iconst (v := 0) dX5_served_1 (by decide) ?_
  refine ko_put fl_X5_41 dX5_served_2 m0 rfl rfl (Nat.le_of_ble_eq_true rfl) ?_
  refine ko_h (ku_same m0) ?_
  refine ko_iload_n (i := 1) dX5_served_5 rfl rfl ?_
  refine ko_i2l dX5_served_6 ?_
  refine ko_lconst (v := 0) dX5_served_7 (by decide) ?_
  refine ko_ldc2 dX5_served_8 fc_X5_145 ?_
  refine ko_callSr lk_X5_48 dX5_served_11 (fn_in (d := d - 1) (v := w) (a := 0) (b := 2)) rfl rfl (by omega) (by omega) (by omega) (Nat.le_of_ble_eq_true rfl) ?_
  first | refine ko_ifb_ne (tgt := 20) dX5_served_14 (by decide) (fun c_14 => ?_) (fun c_14 => ?_) | refine ko_if_ne (tgt := 20) dX5_served_14 (by decide) (fun c_14 => ?_) (fun c_14 => ?_)
  · exact absurd c_14 (by rw [inR]; rcases hw0 with z | z <;> simp [z])
  · refine ko_bipush (v := (-2)) dX5_served_17 (by decide) ?_
    refine ko_iret dX5_served_19 rfl (Nat.le_of_ble_eq_true rfl) (Nat.le_of_ble_eq_true rfl) ?_
    rfl
set_option maxRecDepth 20000 in
theorem sv_G {G : kx_G} {d N m : Nat} {h : kx_H} {o : MO} {S : SU} {w : Int32} {res : kx_R} (hw0 : ¬ w < 0 ∧ w ≤ 2) (he : res = (some (.int (svI S w)), N, fH h m o S)) : kx_Ok mX5_served d 0 0 G 0 0 32 [(0, .ref m), (1, .int w)] [] N (fH h m o S) res := by
  refine ko_iload_n (i := 1) dX5_served_32 rfl rfl ?_
  refine ko_if_ne (tgt := 43) dX5_served_33 (by decide) (fun c_33 => ?_) (fun c_33 => ?_)
  · have c_33 : ¬ w = 0 := c_33
    refine ko_iload_n (i := 1) dX5_served_43 rfl rfl ?_
    refine ko_iconst (v := 1) dX5_served_44 (by decide) ?_
    refine ko_icmp_ne (tgt := 55) dX5_served_45 (by decide) (fun c_45 => ?_) (fun c_45 => ?_)
    · have c_45 : ¬ w = 1 := c_45
      refine ko_aload_n (i := 0) dX5_served_55 rfl rfl ?_
      refine ko_get fl_X5_139 dX5_served_56 fH_o rfl ?_
      refine ko_iret dX5_served_59 rfl (Nat.le_of_ble_eq_true rfl) (Nat.le_of_ble_eq_true rfl) ?_
      rw [he]
      unfold svI
      first
        | rw [if_pos c_33]
        | rw [if_neg c_33, if_pos c_45]
        | rw [if_neg c_33, if_neg (show ¬ ¬ w = 1 from fun z => z c_45)]
    · have c_45 : w = 1 := c_45
      refine ko_aload_n (i := 0) dX5_served_48 rfl rfl ?_
      refine ko_get fl_X5_136 dX5_served_49 fH_o rfl ?_
      refine ko_goto (tgt := 59) dX5_served_52 (by decide) ?_
      refine ko_iret dX5_served_59 rfl (Nat.le_of_ble_eq_true rfl) (Nat.le_of_ble_eq_true rfl) ?_
      rw [he]
      unfold svI
      first
        | rw [if_pos c_33]
        | rw [if_neg c_33, if_pos c_45]
        | rw [if_neg c_33, if_neg (show ¬ ¬ w = 1 from fun z => z c_45)]
  · have c_33 : w = 0 := c_33
    refine ko_aload_n (i := 0) dX5_served_36 rfl rfl ?_
    refine ko_get fl_X5_133 dX5_served_37 fH_o rfl ?_
    refine ko_goto (tgt := 59) dX5_served_40 (by decide) ?_
    refine ko_iret dX5_served_59 rfl (Nat.le_of_ble_eq_true rfl) (Nat.le_of_ble_eq_true rfl) ?_
    rw [he]
    unfold svI
    first
      | rw [if_pos c_33]
      | rw [if_neg c_33, if_pos c_45]
      | rw [if_neg c_33, if_neg (show ¬ ¬ w = 1 from fun z => z c_45)]
set_option maxRecDepth 20000 in
theorem y_served1 {G : kx_G} {d N m : Nat} {h : kx_H} {T : Nat → Int32} {L : Nat} {u : PU} {n C : Nat} {Ac K : Nat → PU} {kf : Nat → Int32} {sd : Int64} {w : Int32} {S : SU} (hS9 : seU u (pOp u) (unbI u) = S) (hw0 : ¬ w < 0 ∧ w ≤ 2)  (hM : kM h m T L u n C Ac K kf sd) (hw : WF u n) (hd : 20 ≤ d) : ∃ g, kx_Fn mX5_served d 0 0 G [.ref m, .int w] N h (some (.int (svI S w)), N, g) ∧ kM g m T L u n C Ac K kf sd ∧ kFr h g m 10 := by
  obtain ⟨o, Kf, f, tr, rp, rk, bk, kp, zk, va, hi9, r1, r2, r3, r4, r5, r6, r7, r8, r9, rC, rL⟩ := id hM
  obtain ⟨m0, m1, m2, m3, m4, m5, m6, m7, m8, m9, m10⟩ := id hi9
  have hn5 := hw.2.1
  obtain ⟨p1, p2, p3, p4, p5, p6, p7⟩ := id r6
  have fr : kFr h (fH h m o S) m 10 := kFr.up (by omega)
  refine ⟨(fH h m o S), kx_Fn_of rfl (Nat.le_of_ble_eq_true rfl) rfl ?_ (kM_dom hM fr), ⟨_, Kf, f, tr, rp, rk, bk, kp, zk, va, kMi_o hi9 _, r1, r2, r3, r4, r5, r6, r7, r8, r9, rC, rL⟩, fr⟩
  · refine ko_aload_n (i := 0) dX5_served_0 rfl rfl ?_
    refine ko_iconst (v := 0) dX5_served_1 (by decide) ?_
    refine ko_put fl_X5_41 dX5_served_2 m0 rfl rfl (Nat.le_of_ble_eq_true rfl) ?_
    refine ko_h (ku_same m0) ?_
    refine ko_iload_n (i := 1) dX5_served_5 rfl rfl ?_
    refine ko_i2l dX5_served_6 ?_
    refine ko_lconst (v := 0) dX5_served_7 (by decide) ?_
    refine ko_ldc2 dX5_served_8 fc_X5_145 ?_
    refine ko_callSr lk_X5_48 dX5_served_11 (fn_in (d := d - 1) (v := w) (a := 0) (b := 2)) rfl rfl (by omega) (by omega) (by omega) (Nat.le_of_ble_eq_true rfl) ?_
    first | refine ko_ifb_ne (tgt := 20) dX5_served_14 (by decide) (fun c_14 => ?_) (fun c_14 => ?_) | refine ko_if_ne (tgt := 20) dX5_served_14 (by decide) (fun c_14 => ?_) (fun c_14 => ?_)
    · refine ko_aload_n (i := 0) dX5_served_20 rfl rfl ?_
      refine ko_aload_n (i := 0) dX5_served_21 rfl rfl ?_
      refine ko_get fl_X5_22 dX5_served_22 m0 rfl ?_
      refine ko_aload_n (i := 0) dX5_served_25 rfl rfl ?_
      refine ko_callVr lk_X5_147 dX5_served_26 (fn_meveryone (n := n) (d := d - 1) m0) rfl rfl m0 rfl rfl (by omega) (by omega) (by omega) (Nat.le_of_ble_eq_true rfl) ?_
      refine ko_callVv lk_X5_150 dX5_served_29 (fn_findServed (d := d - 1) m0 r2 m2 r5 m5 (by omega) r6 hw (by omega) rfl) rfl rfl m0 rfl rfl (by omega) (by omega) (by omega) (Nat.le_of_ble_eq_true rfl) ?_
      rw [r2, serve_u hw (f0 := unbI u) (fun p hp => unb_bit hw hp), hS9]
      exact sv_G hw0 rfl
    · exact absurd c_14 (by rw [inR, decide_eq_false hw0.1, decide_eq_true hw0.2]; decide)
set_option maxRecDepth 20000 in
theorem y_share0 {G : kx_G} {d N m : Nat} {h : kx_H} {T : Nat → Int32} {L : Nat} {u : PU} {n C : Nat} {Ac K : Nat → PU} {kf : Nat → Int32} {sd : Int64} {p : Int32} {up : Bool} (ok : hasI (pN u) p = false) (hM : kM h m T L u n C Ac K kf sd) (hw : WF u n) (hd : 20 ≤ d) : kx_Fn mX5_share d 0 0 G [.ref m, .int p, .int (kb up)] N h (some (.int (-1)), N, h) := by
  refine kx_Fn_of rfl (Nat.le_of_ble_eq_true rfl) rfl ?_ (kx_self)
  obtain ⟨o, Kf, f, tr, rp, rk, bk, kp, zk, va, hi9, r1, r2, r3, r4, r5, r6, r7, r8, r9, rC, rL⟩ := id hM
  obtain ⟨m0, m1, m2, m3, m4, m5, m6, m7, m8, m9, m10⟩ := id hi9
  have hn5 := hw.2.1
  obtain ⟨p1, p2, p3, p4, p5, p6, p7⟩ := id r6
  refine ko_aload_n (i := 0) dX5_share_0 rfl rfl ?_
  refine ko_iconst (v := 0) dX5_share_1 (by decide) ?_
  refine ko_put fl_X5_41 dX5_share_2 m0 rfl rfl (Nat.le_of_ble_eq_true rfl) ?_
  refine ko_h (ku_same m0) ?_
  refine ko_aload_n (i := 0) dX5_share_5 rfl rfl ?_
  refine ko_iload_n (i := 1) dX5_share_6 rfl rfl ?_
  refine ko_callVr lk_X5_108 dX5_share_7 (fn_noPerson (d := d - 1) m0 r2 hn5 (by omega)) rfl rfl m0 rfl rfl (by omega) (by omega) (by omega) (Nat.le_of_ble_eq_true rfl) ?_
  first | refine ko_ifb_eq (tgt := 15) dX5_share_10 (by decide) (fun c_10 => ?_) (fun c_10 => ?_) | refine ko_if_eq (tgt := 15) dX5_share_10 (by decide) (fun c_10 => ?_) (fun c_10 => ?_)
  · exact absurd c_10 (by rw [← hw.1, ok]; decide)
  · refine ko_iconst (v := (-1)) dX5_share_13 (by decide) ?_
    refine ko_iret dX5_share_14 rfl (Nat.le_of_ble_eq_true rfl) (Nat.le_of_ble_eq_true rfl) ?_
    rfl
theorem U_of {u : PU} {n : Nat} (hw : WF u n) : ∃ U, U < 2 ^ n ∧ unbI u = nI U := by
  have h5 := hw.2.1
  have hl : lo (unbI u) := by
    unfold unbI
    rw [hw.1]
    exact lo_andn (lo_ev h5) (lo_W hw).1
  obtain ⟨U, h1, h2⟩ := gd_of h5 hl (fun j hj hn => by
    unfold unbI
    rw [hw.1, hb_and _ _ j hj, hb_ev n (by omega) j hj, decide_eq_false (by omega)]
    rfl)
  exact ⟨U, h1, h2⟩
def shV (Q : Int32 → SU) (U : Nat) (V : Nat → Int32) : Nat → (Nat → Int32)
  | 0 => V
  | i + 1 => if ¬ sbI (nI i) (nI U) = 0 then shV Q U V i else upd (shV Q U V i) i (Q (nI i)).2.1
def shT (Q : Int32 → SU) (U : Nat) (s : SU) : Nat → SU
  | 0 => s
  | i + 1 => if ¬ sbI (nI i) (nI U) = 0 then shT Q U s i else Q (nI i)
theorem shV_val (Q : Int32 → SU) (U : Nat) (V : Nat → Int32) : ∀ i j, j < i → sbI (nI j) (nI U) = 0 → shV Q U V i j = (Q (nI j)).2.1
  | 0, j, h, _ => absurd h (Nat.not_lt_zero j)
  | i + 1, j, h, hs => by
    rw [shV]
    by_cases h1 : j = i
    · subst h1
      rw [if_neg (fun z => z hs), pk_us]
    · split
      · exact shV_val Q U V i j (by omega) hs
      · rw [pk_un h1]
        exact shV_val Q U V i j (by omega) hs
def suI (V : Nat → Int32) (NN U p : Nat) : Nat → Int32
  | 0 => 0
  | i + 1 => if ¬ sbI (nI i) (nI U) = 0 then suI V NN U p i else if hbI (nI i) (nI p) = true then suI V NN U p i else suI V NN U p i + faN (pcN i) * faN (NN - 1 - pcN i) * (V (setN i p) - V i)
set_option maxRecDepth 20000 in
theorem sh_1 {G : kx_G} {d N m n : Nat} {h : kx_H} {o : MO} {Kf f V : Nat → Int32} {u : PU} {up : Bool} {p1 c4 c5 : Int32} {U : Nat} {res : kx_R} {s S : SU} {i R : Nat} (r2 : mN o = nI n) (k0 : h (m + 2) = some (ka 5 Kf)) (hk : ∀ j, j < n → Kf j = pKd u j) (t5 : h (m + 5) = some (ka 43 f)) (hp : pgR f u) (hw : WF u n) (hd : 20 ≤ d) (hR : Mk u n n = R) (hQ : blk u n (nI i) n 0 0 0 0 R R (pOp u, -9, 9999, 0) = S) (hi : i < 32) (K : kx_Ok mX5_share d 0 0 G 0 0 78 [(0, .ref m), (1, .int p1), (2, .int (kb up)), (3, .int (nI U)), (4, .int c4), (5, .int c5), (6, .int (nI i))] [] N (fH (kx_up h (m + 10) (ka 32 (upd V i S.2.1))) m o S) res) : kx_Ok mX5_share d 0 0 G 0 0 57 [(0, .ref m), (1, .int p1), (2, .int (kb up)), (3, .int (nI U)), (4, .int c4), (5, .int c5), (6, .int (nI i))] [] N (fH (kx_up h (m + 10) (ka 32 V)) m o s) res := by
  refine ko_aload_n (i := 0) dX5_share_57 rfl rfl ?_
  refine ko_aload_n (i := 0) dX5_share_58 rfl rfl ?_
  refine ko_get fl_X5_22 dX5_share_59 fH_o rfl ?_
  refine ko_iload (i := 6) dX5_share_62 rfl ?_
  refine ko_callVv lk_X5_150 dX5_share_64 (fn_findServed (d := d - 1) (bY := nI i) fH_o r2 ((fH_n (by omega)).trans ((ku_n (by omega)).trans k0)) hk ((fH_n (by omega)).trans ((ku_n (by omega)).trans t5)) (by omega) hp hw (by omega) hR) rfl rfl fH_o rfl rfl (by omega) (by omega) (by omega) (Nat.le_of_ble_eq_true rfl) ?_
  rw [hQ]
  refine ko_h fH_fH ?_
  refine ko_aload_n (i := 0) dX5_share_67 rfl rfl ?_
  refine ko_get fl_X5_38 dX5_share_68 fH_o rfl ?_
  refine ko_iload (i := 6) dX5_share_71 rfl ?_
  refine ko_aload_n (i := 0) dX5_share_73 rfl rfl ?_
  refine ko_get fl_X5_133 dX5_share_74 fH_o rfl ?_
  refine ko_st (st' := [.int S.2.1, .int (nI i), .ref (m + 10)]) rfl ?_
  refine ko_iast dX5_share_77 ((fH_n (by omega)).trans ku_s) (vp_in_nI hi (by omega)) ?_
  rw [nI_clamp (by omega)]
  refine ko_h (fH_up (by omega)) ?_
  exact K
set_option maxRecDepth 20000 in
theorem sh_L1 {G : kx_G} {d N m n : Nat} {h : kx_H} {o : MO} {Kf f V : Nat → Int32} {u : PU} {up : Bool} {p1 c4 c5 : Int32} {U : Nat} {res : kx_R} {s : SU} {Q : Int32 → SU} (r2 : mN o = nI n) (k0 : h (m + 2) = some (ka 5 Kf)) (hk : ∀ j, j < n → Kf j = pKd u j) (t5 : h (m + 5) = some (ka 43 f)) (hp : pgR f u) (hw : WF u n) (hd : 20 ≤ d) (hU : U < 32) (hQ : ∀ i, i < 32 → sbI (nI i) (nI U) = 0 → blk u n (nI i) n 0 0 0 0 (Mk u n n) (Mk u n n) (pOp u, -9, 9999, 0) = Q (nI i)) (K : kx_Ok mX5_share d 0 0 G 0 0 84 [(0, .ref m), (1, .int p1), (2, .int (kb up)), (3, .int (nI U)), (4, .int c4), (5, .int c5)] [] N (fH (kx_up h (m + 10) (ka 32 (shV Q U V (U + 1)))) m o (shT Q U s (U + 1))) res) : kx_Ok mX5_share d 0 0 G 0 0 42 [(0, .ref m), (1, .int p1), (2, .int (kb up)), (3, .int (nI U)), (4, .int c4), (5, .int c5), (6, .int 0)] [] N (fH (kx_up h (m + 10) (ka 32 V)) m o s) res := by
  have LOOP : ∀ (k i : Nat), k + i = (U + 1) → kx_Ok mX5_share d 0 0 G 0 0 42 [(0, .ref m), (1, .int p1), (2, .int (kb up)), (3, .int (nI U)), (4, .int c4), (5, .int c5), (6, .int (nI i))] [] N (fH (kx_up h (m + 10) (ka 32 (shV Q U V i))) m o (shT Q U s i)) res := by
    intro k
    induction k with
    | zero =>
      intro i hi
      obtain rfl : i = (U + 1) := by omega
      refine ko_iload (i := 6) dX5_share_42 rfl ?_
      refine ko_iload_n (i := 3) dX5_share_44 rfl rfl ?_
      refine ko_icmp_gt (tgt := 84) dX5_share_45 (by decide) (fun c_45 => ?_) (fun c_45 => ?_)
      · exact ko_keep [0, 1, 2, 3, 4, 5] rfl K
      · exact absurd (show nI U < nI (U + 1) from nI_lt (by omega) (by omega)) c_45
    | succ k ih =>
      intro i hi
      refine ko_iload (i := 6) dX5_share_42 rfl ?_
      refine ko_iload_n (i := 3) dX5_share_44 rfl rfl ?_
      refine ko_icmp_gt (tgt := 84) dX5_share_45 (by decide) (fun c_45 => ?_) (fun c_45 => ?_)
      · exact absurd (show nI U < nI i from c_45) (nI_nlt (by omega) (by omega))
      · refine ko_iload (i := 6) dX5_share_48 rfl ?_
        refine ko_iload_n (i := 3) dX5_share_50 rfl rfl ?_
        refine ko_iconst (v := (-1)) dX5_share_51 (by decide) ?_
        refine ko_ixor dX5_share_52 ?_
        refine ko_iand dX5_share_53 ?_
        refine ko_st (st' := [.int (sbI (nI i) (nI U))]) rfl ?_
        refine ko_if_ne (tgt := 78) dX5_share_54 (by decide) (fun c_54 => ?_) (fun c_54 => ?_)
        · refine ko_inc1 (i := 6) (lv' := [(0, _), (1, _), (2, _), (3, _), (4, _), (5, _), (6, _)]) dX5_share_78 rfl (by decide) rfl rfl rfl ?_
          refine ko_goto (tgt := 42) dX5_share_81 (by decide) ?_
          have ei := ih (i + 1) (by omega)
          rw [shV, shT, if_pos (show ¬ sbI (nI i) (nI U) = 0 from c_54), if_pos (show ¬ sbI (nI i) (nI U) = 0 from c_54), nI_succ] at ei
          exact ei
        · refine sh_1 r2 k0 hk t5 hp hw hd rfl (hQ i (by omega) c_54) (by omega) ?_
          refine ko_inc1 (i := 6) (lv' := [(0, _), (1, _), (2, _), (3, _), (4, _), (5, _), (6, _)]) dX5_share_78 rfl (by decide) rfl rfl rfl ?_
          refine ko_goto (tgt := 42) dX5_share_81 (by decide) ?_
          have ei := ih (i + 1) (by omega)
          rw [shV, shT, if_neg (show ¬ ¬ sbI (nI i) (nI U) = 0 from fun z => z c_54), if_neg (show ¬ ¬ sbI (nI i) (nI U) = 0 from fun z => z c_54), nI_succ] at ei
          exact ei
  exact LOOP (U + 1) 0 (by omega)
theorem sh_k0 : ∀ U, U < 32 → ∀ p, p < 5 → ∀ i, i < 32 → (hbI (nI U) (nI p) && (decide (sbI (nI i) (nI U) = 0) && !hbI (nI i) (nI p))) = true → pcN i + 1 ≤ pcN U := by decide +kernel
theorem sh_k (U : Nat) (hU : U < 32) (p : Nat) (hp : p < 5) (h1 : hbI (nI U) (nI p) = true) (i : Nat) (hi : i < 32) (h2 : sbI (nI i) (nI U) = 0) (h3 : hbI (nI i) (nI p) = false) : pcN i + 1 ≤ pcN U := sh_k0 U hU p hp i hi (by rw [h1, decide_eq_true h2, h3]; rfl)
theorem sub2 {NN k : Nat} (h : k + 1 ≤ NN) : nI NN - 1 - nI k = nI (NN - 1 - k) := by
  rw [show (1 : Int32) = nI 1 from rfl, pk_sub (by omega), pk_sub (by omega)]
set_option maxRecDepth 20000 in
theorem sh_L2 {G : kx_G} {d N m : Nat} {h : kx_H} {o : MO} {V : Nat → Int32} {up : Bool} {U p : Nat} {res : kx_R} {s : SU} (hd : 20 ≤ d) (hU : U < 32) (hp5 : p < 5) (hpU : hbI (nI U) (nI p) = true) (K : kx_Ok mX5_share d 0 0 G 0 0 173 [(0, .ref m), (1, .int (nI p)), (2, .int (kb up)), (3, .int (nI U)), (4, .int (nI (pcN U))), (5, .int (suI V (pcN U) U p (U + 1)))] [] N (fH (kx_up h (m + 10) (ka 32 V)) m o s) res) : kx_Ok mX5_share d 0 0 G 0 0 87 [(0, .ref m), (1, .int (nI p)), (2, .int (kb up)), (3, .int (nI U)), (4, .int (nI (pcN U))), (5, .int 0), (6, .int 0)] [] N (fH (kx_up h (m + 10) (ka 32 V)) m o s) res := by
  have LOOP : ∀ (k i : Nat), k + i = (U + 1) → kx_Ok mX5_share d 0 0 G 0 0 87 [(0, .ref m), (1, .int (nI p)), (2, .int (kb up)), (3, .int (nI U)), (4, .int (nI (pcN U))), (5, .int (suI V (pcN U) U p i)), (6, .int (nI i))] [] N (fH (kx_up h (m + 10) (ka 32 V)) m o s) res := by
    intro k
    induction k with
    | zero =>
      intro i hi
      obtain rfl : i = (U + 1) := by omega
      refine ko_iload (i := 6) dX5_share_87 rfl ?_
      refine ko_iload_n (i := 3) dX5_share_89 rfl rfl ?_
      refine ko_icmp_gt (tgt := 173) dX5_share_90 (by decide) (fun c_90 => ?_) (fun c_90 => ?_)
      · refine ko_keep [0, 1, 2, 3, 4, 5] rfl K
      · exact absurd (show nI U < nI (U + 1) from nI_lt (by omega) (by omega)) c_90
    | succ k ih =>
      intro i hi
      refine ko_iload (i := 6) dX5_share_87 rfl ?_
      refine ko_iload_n (i := 3) dX5_share_89 rfl rfl ?_
      refine ko_icmp_gt (tgt := 173) dX5_share_90 (by decide) (fun c_90 => ?_) (fun c_90 => ?_)
      · exact absurd (show nI U < nI i from c_90) (nI_nlt (by omega) (by omega))
      · refine ko_iload_n (i := 3) dX5_share_93 rfl rfl ?_
        refine ko_iload_n (i := 1) dX5_share_94 rfl rfl ?_
        refine ko_callSr lk_X5_63 dX5_share_95 (fn_mhas (by omega)) rfl rfl (by omega) (by omega) (by omega) (Nat.le_of_ble_eq_true rfl) ?_
        first | refine ko_ifb_eq (tgt := 173) dX5_share_98 (by decide) (fun c_98 => ?_) (fun c_98 => ?_) | refine ko_if_eq (tgt := 173) dX5_share_98 (by decide) (fun c_98 => ?_) (fun c_98 => ?_)
        · exact absurd c_98 (by rw [hpU]; decide)
        · refine ko_iload (i := 6) dX5_share_101 rfl ?_
          refine ko_iload_n (i := 3) dX5_share_103 rfl rfl ?_
          refine ko_iconst (v := (-1)) dX5_share_104 (by decide) ?_
          refine ko_ixor dX5_share_105 ?_
          refine ko_iand dX5_share_106 ?_
          refine ko_st (st' := [.int (sbI (nI i) (nI U))]) rfl ?_
          refine ko_if_ne (tgt := 167) dX5_share_107 (by decide) (fun c_107 => ?_) (fun c_107 => ?_)
          · refine ko_inc1 (i := 6) (lv' := [(0, _), (1, _), (2, _), (3, _), (4, _), (5, _), (6, _)]) dX5_share_167 rfl (by decide) rfl rfl rfl ?_
            refine ko_goto (tgt := 87) dX5_share_170 (by decide) ?_
            have ei := ih (i + 1) (by omega)
            refine ko_keep [0, 1, 2, 3, 4, 5, 6] (lv' := [(0, _), (1, _), (2, _), (3, _), (4, _), (5, _), (6, .int (nI i + 1))]) rfl ?_
            first
              | (rw [suI, if_pos (show ¬ sbI (nI i) (nI U) = 0 from c_107), nI_succ] at ei; exact ei)
              | (rw [suI, if_neg (show ¬ ¬ sbI (nI i) (nI U) = 0 from fun z => z c_107), if_pos c_116, nI_succ] at ei; exact ei)
              | (rw [suI, if_neg (show ¬ ¬ sbI (nI i) (nI U) = 0 from fun z => z c_107), if_neg (by rw [c_116]; decide), nI_succ] at ei; exact ei)
          · refine ko_iload (i := 6) dX5_share_110 rfl ?_
            refine ko_iload_n (i := 1) dX5_share_112 rfl rfl ?_
            refine ko_callSr lk_X5_63 dX5_share_113 (fn_mhas (by omega)) rfl rfl (by omega) (by omega) (by omega) (Nat.le_of_ble_eq_true rfl) ?_
            first | refine ko_ifb_ne (tgt := 167) dX5_share_116 (by decide) (fun c_116 => ?_) (fun c_116 => ?_) | refine ko_if_ne (tgt := 167) dX5_share_116 (by decide) (fun c_116 => ?_) (fun c_116 => ?_)
            · refine ko_inc1 (i := 6) (lv' := [(0, _), (1, _), (2, _), (3, _), (4, _), (5, _), (6, _)]) dX5_share_167 rfl (by decide) rfl rfl rfl ?_
              refine ko_goto (tgt := 87) dX5_share_170 (by decide) ?_
              have ei := ih (i + 1) (by omega)
              refine ko_keep [0, 1, 2, 3, 4, 5, 6] (lv' := [(0, _), (1, _), (2, _), (3, _), (4, _), (5, _), (6, .int (nI i + 1))]) rfl ?_
              first
                | (rw [suI, if_pos (show ¬ sbI (nI i) (nI U) = 0 from c_107), nI_succ] at ei; exact ei)
                | (rw [suI, if_neg (show ¬ ¬ sbI (nI i) (nI U) = 0 from fun z => z c_107), if_pos c_116, nI_succ] at ei; exact ei)
                | (rw [suI, if_neg (show ¬ ¬ sbI (nI i) (nI U) = 0 from fun z => z c_107), if_neg (by rw [c_116]; decide), nI_succ] at ei; exact ei)
            · have hkk := sh_k U hU p hp5 hpU i (by omega) c_107 c_116
              refine ko_iload (i := 6) dX5_share_119 rfl ?_
              refine ko_callSr lk_X5_122 dX5_share_121 (fn_many (d := d - 1)) rfl rfl (by omega) (by omega) (by omega) (Nat.le_of_ble_eq_true rfl) ?_
              rw [mn_bc i (by omega), bc_pc i (by omega)]
              refine ko_istore (i := 7) (lv' := [(0, _), (1, _), (2, _), (3, _), (4, _), (5, _), (6, _), (7, _)]) dX5_share_124 (by decide) rfl rfl rfl ?_
              refine ko_iload (i := 5) dX5_share_126 rfl ?_
              refine ko_iload (i := 7) dX5_share_128 rfl ?_
              refine ko_callSr lk_X5_159 dX5_share_130 (fn_orders (d := d - 1) (t := pcN i) (by have := pc_5 i (by omega); omega)) rfl rfl (by omega) (by omega) (by omega) (Nat.le_of_ble_eq_true rfl) ?_
              refine ko_iload (i := 4) dX5_share_133 rfl ?_
              refine ko_iconst (v := 1) dX5_share_135 (by decide) ?_
              refine ko_isub dX5_share_136 ?_
              refine ko_iload (i := 7) dX5_share_137 rfl ?_
              refine ko_isub dX5_share_139 ?_
              rw [sub2 hkk]
              refine ko_callSr lk_X5_159 dX5_share_140 (fn_orders (d := d - 1) (t := pcN U - 1 - pcN i) (by have := pc_5 U (by omega); omega)) rfl rfl (by omega) (by omega) (by omega) (Nat.le_of_ble_eq_true rfl) ?_
              refine ko_imul dX5_share_143 ?_
              refine ko_aload_n (i := 0) dX5_share_144 rfl rfl ?_
              refine ko_get fl_X5_38 dX5_share_145 fH_o rfl ?_
              refine ko_iload (i := 6) dX5_share_148 rfl ?_
              refine ko_iconst (v := 1) dX5_share_150 (by decide) ?_
              refine ko_iload_n (i := 1) dX5_share_151 rfl rfl ?_
              refine ko_ishl dX5_share_152 ?_
              refine ko_ior dX5_share_153 ?_
              rw [set_eq p hp5 i (by omega)]
              refine ko_iald dX5_share_154 ((fH_n (by omega)).trans ku_s) (vp_in_nI (set_lt 5 (by omega) p hp5 i (by omega)) (by omega)) ?_
              rw [nI_clamp (by have := set_lt 5 (by omega) p hp5 i (by omega); omega)]
              refine ko_aload_n (i := 0) dX5_share_155 rfl rfl ?_
              refine ko_get fl_X5_38 dX5_share_156 fH_o rfl ?_
              refine ko_iload (i := 6) dX5_share_159 rfl ?_
              refine ko_iald dX5_share_161 ((fH_n (by omega)).trans ku_s) (vp_in_nI (show i < 32 by omega) (by omega)) ?_
              rw [nI_clamp (by omega)]
              refine ko_isub dX5_share_162 ?_
              refine ko_imul dX5_share_163 ?_
              refine ko_iadd dX5_share_164 ?_
              refine ko_istore (i := 5) (lv' := [(0, _), (1, _), (2, _), (3, _), (4, _), (5, _), (6, _), (7, _)]) dX5_share_165 (by decide) rfl rfl rfl ?_
              refine ko_inc1 (i := 6) (lv' := [(0, _), (1, _), (2, _), (3, _), (4, _), (5, _), (6, _), (7, _)]) dX5_share_167 rfl (by decide) rfl rfl rfl ?_
              refine ko_goto (tgt := 87) dX5_share_170 (by decide) ?_
              have ei := ih (i + 1) (by omega)
              refine ko_keep [0, 1, 2, 3, 4, 5, 6] (lv' := [(0, _), (1, _), (2, _), (3, _), (4, _), (5, _), (6, .int (nI i + 1))]) rfl ?_
              first
                | (rw [suI, if_pos (show ¬ sbI (nI i) (nI U) = 0 from c_107), nI_succ] at ei; exact ei)
                | (rw [suI, if_neg (show ¬ ¬ sbI (nI i) (nI U) = 0 from fun z => z c_107), if_pos c_116, nI_succ] at ei; exact ei)
                | (rw [suI, if_neg (show ¬ ¬ sbI (nI i) (nI U) = 0 from fun z => z c_107), if_neg (by rw [c_116]; decide), nI_succ] at ei; exact ei)
  exact LOOP (U + 1) 0 (by omega)
