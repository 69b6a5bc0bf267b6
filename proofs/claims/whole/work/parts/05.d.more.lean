/-! ===== the object: waiting, rests, fractions ===== -/
theorem pN_pw (u : PU) (m : Nat) : pN (pwU u m) = pN u := congrArg (fun x => x.2.2.2.1) (wkN_2 u m)
def pwN (u : PU) (m : Nat) : Nat → PU
  | 0 => u
  | i + 1 => pwU (pwN u m i) m
theorem pN_pwN (u : PU) (m : Nat) : ∀ i, pN (pwN u m i) = pN u
  | 0 => rfl
  | i + 1 => (pN_pw _ m).trans (pN_pwN u m i)
def tiI (u : PU) (m : Nat) (p q : Int32) : Nat → Nat → Int32
  | 0, _ => -9
  | k + 1, i => if mayI (pwN u m i) p q = true then nI i else tiI u m p q k (i + 1)
def tiU (u : PU) (m : Nat) (p q : Int32) : Nat → Nat → PU
  | 0, i => pwN u m i
  | k + 1, i => if mayI (pwN u m i) p q = true then pwN u m i else tiU u m p q k (i + 1)
set_option maxRecDepth 20000 in
theorem x_till0 {G : kx_G} {d N x : Nat} {h : kx_H} {T : Nat → Int32} {L : Nat} {u : PU} {C : Nat} {Ac K : Nat → PU} {kf : Nat → Int32} {sd : Int64} {p q : Int32} (ok : (hasI (pN u) p && hasI (pN u) q) = false) (hS : kS h x T L u C Ac K kf sd) (hd : 20 ≤ d) : kx_Fn mX4_till d 0 0 G [.ref x, .int p, .int q] N h (some (.int (-1)), N, h) := by
  refine kx_Fn_of rfl (Nat.le_of_ble_eq_true rfl) rfl ?_ (kx_self)
  obtain ⟨told, trial, F, B, s, f, hi, hf, hF, hC, hB, hL⟩ := id hS
  obtain ⟨s1, s2, s3, s4, s5, s6, s7, s8, s9, s10, s11⟩ := id hi
  refine ko_aload_n (i := 0) dX4_till_0 rfl rfl ?_
  refine ko_get fl_X4_19 dX4_till_1 s1 rfl ?_
  refine ko_iload_n (i := 1) dX4_till_4 rfl rfl ?_
  refine ko_callVr lk_X4_90 dX4_till_5 (fn_has (d := d - 1) s5) rfl rfl s5.1 rfl rfl (by omega) (by omega) (by omega) (Nat.le_of_ble_eq_true rfl) ?_
  first | refine ko_ifb_eq (tgt := 22) dX4_till_8 (by decide) (fun c_8 => ?_) (fun c_8 => ?_) | refine ko_if_eq (tgt := 22) dX4_till_8 (by decide) (fun c_8 => ?_) (fun c_8 => ?_)
  · refine ko_iconst (v := (-1)) dX4_till_22 (by decide) ?_
    refine ko_iret dX4_till_23 rfl (Nat.le_of_ble_eq_true rfl) (Nat.le_of_ble_eq_true rfl) ?_
    rfl
  · refine ko_aload_n (i := 0) dX4_till_11 rfl rfl ?_
    refine ko_get fl_X4_19 dX4_till_12 s1 rfl ?_
    refine ko_iload_n (i := 2) dX4_till_15 rfl rfl ?_
    refine ko_callVr lk_X4_90 dX4_till_16 (fn_has (d := d - 1) s5) rfl rfl s5.1 rfl rfl (by omega) (by omega) (by omega) (Nat.le_of_ble_eq_true rfl) ?_
    first | refine ko_ifb_ne (tgt := 24) dX4_till_19 (by decide) (fun c_19 => ?_) (fun c_19 => ?_) | refine ko_if_ne (tgt := 24) dX4_till_19 (by decide) (fun c_19 => ?_) (fun c_19 => ?_)
    · exact absurd ok (by simp [c_8, c_19])
    · refine ko_iconst (v := (-1)) dX4_till_22 (by decide) ?_
      refine ko_iret dX4_till_23 rfl (Nat.le_of_ble_eq_true rfl) (Nat.le_of_ble_eq_true rfl) ?_
      rfl
set_option maxRecDepth 20000 in
theorem x_till1 {G : kx_G} {d N x : Nat} {h : kx_H} {T : Nat → Int32} {L : Nat} {u : PU} {C : Nat} {Ac K : Nat → PU} {kf : Nat → Int32} {sd : Int64} {m : Nat} {p q : Int32} (ok : (hasI (pN u) p && hasI (pN u) q) = true) (hn : pN u = nI m) (hm : m ≤ 5) (hS : kS h x T L u C Ac K kf sd) (hd : 20 ≤ d) : ∃ g, kx_Fn mX4_till d 0 0 G [.ref x, .int p, .int q] N h (some (.int (tiI u m p q 10 0)), N, g) ∧ kS g x T L u C Ac K kf sd ∧ kFr h g x 121 := by
  obtain ⟨told, trial, F, B, s, f, hi, hf, hF, hC, hB, hL⟩ := id hS
  obtain ⟨s1, s2, s3, s4, s5, s6, s7, s8, s9, s10, s11⟩ := id hi
  have fr : kFr h (kp_put h (x + 15) (tiU u m p q 10 0)) x 121 := kFr.put (by omega)
  refine ⟨_, kx_Fn_of rfl (Nat.le_of_ble_eq_true rfl) rfl ?_ (kS_dom hS fr), kS_trial hS _, fr⟩
  · have LOOP : ∀ (k i : Nat), k + i = 10 → kx_Ok mX4_till d 0 0 G 0 0 37 [(0, .ref x), (1, .int p), (2, .int q), (3, .int (nI i))] [] N (kp_put h (x + 15) (pwN u m i)) (some (.int (tiI u m p q k i)), N, kp_put h (x + 15) (tiU u m p q k i)) := by
      intro k
      induction k with
      | zero =>
        intro i hi9
        obtain rfl : i = 10 := by omega
        refine ko_iload_n (i := 3) dX4_till_37 rfl rfl ?_
        refine ko_bipush (v := 9) dX4_till_38 (by decide) ?_
        refine ko_icmp_gt (tgt := 70) dX4_till_40 (by decide) (fun c_40 => ?_) (fun c_40 => ?_)
        · refine ko_bipush (v := (-9)) dX4_till_70 (by decide) ?_
          refine ko_iret dX4_till_72 rfl (Nat.le_of_ble_eq_true rfl) (Nat.le_of_ble_eq_true rfl) ?_
          rfl
        · exact absurd (show nI 9 < nI 10 from nI_lt (by omega) (by omega)) c_40
      | succ k ih =>
        intro i hi9
        refine ko_iload_n (i := 3) dX4_till_37 rfl rfl ?_
        refine ko_bipush (v := 9) dX4_till_38 (by decide) ?_
        refine ko_icmp_gt (tgt := 70) dX4_till_40 (by decide) (fun c_40 => ?_) (fun c_40 => ?_)
        · exact absurd (show nI 9 < nI i from c_40) (nI_nlt (by omega) (by omega))
        · refine ko_aload_n (i := 0) dX4_till_43 rfl rfl ?_
          refine ko_get fl_X4_23 dX4_till_44 ((kp_put_out (by omega)).trans s1) rfl ?_
          refine ko_iload_n (i := 1) dX4_till_47 rfl rfl ?_
          refine ko_iload_n (i := 2) dX4_till_48 rfl rfl ?_
          refine ko_callVr lk_X4_132 dX4_till_49 (fn_mayWeep (d := d - 1) (kp_put_P _ _ _) (by omega)) rfl rfl (kp_put_P _ _ _).1 rfl rfl (by omega) (by omega) (by omega) (Nat.le_of_ble_eq_true rfl) ?_
          first | refine ko_ifb_eq (tgt := 57) dX4_till_52 (by decide) (fun c_52 => ?_) (fun c_52 => ?_) | refine ko_if_eq (tgt := 57) dX4_till_52 (by decide) (fun c_52 => ?_) (fun c_52 => ?_)
          · refine ko_aload_n (i := 0) dX4_till_57 rfl rfl ?_
            refine ko_get fl_X4_23 dX4_till_58 ((kp_put_out (by omega)).trans s1) rfl ?_
            refine ko_callVv lk_X4_146 dX4_till_61 (fn_passWeek (d := d - 1) (kp_put_P _ _ _) ((pN_pwN u m i).trans hn) hm (by omega)) rfl rfl (kp_put_P _ _ _).1 rfl rfl (by omega) (by omega) (by omega) (Nat.le_of_ble_eq_true rfl) ?_
            rw [kp_put_put]
            refine ko_inc1 (i := 3) (lv' := [(0, _), (1, _), (2, _), (3, _)]) dX4_till_64 rfl (by decide) rfl rfl rfl ?_
            refine ko_goto (tgt := 37) dX4_till_67 (by decide) ?_
            simp only [tiI, tiU, c_52, Bool.false_eq_true, if_false]
            exact ko_lv (by rw [nI_succ]) (ih (i + 1) (by omega))
          · refine ko_iload_n (i := 3) dX4_till_55 rfl rfl ?_
            refine ko_iret dX4_till_56 rfl (Nat.le_of_ble_eq_true rfl) (Nat.le_of_ble_eq_true rfl) ?_
            simp only [tiI, tiU, c_52, if_true]
    refine ko_aload_n (i := 0) dX4_till_0 rfl rfl ?_
    refine ko_get fl_X4_19 dX4_till_1 s1 rfl ?_
    refine ko_iload_n (i := 1) dX4_till_4 rfl rfl ?_
    refine ko_callVr lk_X4_90 dX4_till_5 (fn_has (d := d - 1) s5) rfl rfl s5.1 rfl rfl (by omega) (by omega) (by omega) (Nat.le_of_ble_eq_true rfl) ?_
    first | refine ko_ifb_eq (tgt := 22) dX4_till_8 (by decide) (fun c_8 => ?_) (fun c_8 => ?_) | refine ko_if_eq (tgt := 22) dX4_till_8 (by decide) (fun c_8 => ?_) (fun c_8 => ?_)
    · exact absurd ok (by simp [c_8])
    · refine ko_aload_n (i := 0) dX4_till_11 rfl rfl ?_
      refine ko_get fl_X4_19 dX4_till_12 s1 rfl ?_
      refine ko_iload_n (i := 2) dX4_till_15 rfl rfl ?_
      refine ko_callVr lk_X4_90 dX4_till_16 (fn_has (d := d - 1) s5) rfl rfl s5.1 rfl rfl (by omega) (by omega) (by omega) (Nat.le_of_ble_eq_true rfl) ?_
      first | refine ko_ifb_ne (tgt := 24) dX4_till_19 (by decide) (fun c_19 => ?_) (fun c_19 => ?_) | refine ko_if_ne (tgt := 24) dX4_till_19 (by decide) (fun c_19 => ?_) (fun c_19 => ?_)
      · refine ko_aload_n (i := 0) dX4_till_24 rfl rfl ?_
        refine ko_get fl_X4_23 dX4_till_25 s1 rfl ?_
        refine ko_aload_n (i := 0) dX4_till_28 rfl rfl ?_
        refine ko_get fl_X4_19 dX4_till_29 s1 rfl ?_
        refine ko_callVv lk_X4_67 dX4_till_32 (fn_copyFrom (d := d - 1) s6 s5 (by omega) (by omega)) rfl rfl s6.1 rfl rfl (by omega) (by omega) (by omega) (Nat.le_of_ble_eq_true rfl) ?_
        refine ko_iconst (v := 0) dX4_till_35 (by decide) ?_
        refine ko_istore_n (i := 3) (lv' := [(0, _), (1, _), (2, _), (3, _)]) dX4_till_36 rfl (by decide) rfl rfl rfl ?_
        exact LOOP 10 0 rfl
      · exact absurd ok (by simp [c_8, c_19])
def owB (o a : Int32) (b1 b2 : Bool) : Bool := b1 && (decide (a ≤ o) || !b2)
def goJ (o : Int32) (b1 : Bool) (w : Int32) : Int32 := if w = 0 then if o ≤ 0 then 0 else if b1 = true then 0 else -1 else 3 - o
def g1I (o a : Int32) (b1 b2 : Bool) : Int32 := goJ o b1 (kb (owB o a b1 b2))
def g2I (o a : Int32) (b1 b2 : Bool) : Int32 := goJ a b2 (kb (b2 && !owB o a b1 b2))
set_option maxRecDepth 20000 in
theorem fn_oneWeeps {G : kx_G} {d N : Nat} {h : kx_H} {o a : Int32} {b1 b2 : Bool}  : kx_Fn mX4_oneWeeps d 0 0 G [.int o, .int a, .int (kb b1), .int (kb b2)] N h (some (.int (kb (owB o a b1 b2))), N, h) := by
  refine kx_Fn_of rfl (Nat.le_of_ble_eq_true rfl) rfl ?_ kx_self
  refine ko_iload_n (i := 2) dX4_oneWeeps_0 rfl rfl ?_
  first | refine ko_ifb_eq (tgt := 17) dX4_oneWeeps_1 (by decide) (fun c_1 => ?_) (fun c_1 => ?_) | refine ko_if_eq (tgt := 17) dX4_oneWeeps_1 (by decide) (fun c_1 => ?_) (fun c_1 => ?_)
  · refine ko_iconst (v := 0) dX4_oneWeeps_17 (by decide) ?_
    refine ko_zret dX4_oneWeeps_18 rfl rfl (Nat.le_of_ble_eq_true rfl) (Nat.le_of_ble_eq_true rfl) ?_
    simp [owB, kb, c_1]
  · refine ko_iload_n (i := 0) dX4_oneWeeps_4 rfl rfl ?_
    refine ko_iload_n (i := 1) dX4_oneWeeps_5 rfl rfl ?_
    refine ko_icmp_ge (tgt := 13) dX4_oneWeeps_6 (by decide) (fun c_6 => ?_) (fun c_6 => ?_)
    · refine ko_iconst (v := 1) dX4_oneWeeps_13 (by decide) ?_
      refine ko_goto (tgt := 18) dX4_oneWeeps_14 (by decide) ?_
      refine ko_zret dX4_oneWeeps_18 rfl rfl (Nat.le_of_ble_eq_true rfl) (Nat.le_of_ble_eq_true rfl) ?_
      simp [owB, kb, c_1, c_6]
    · refine ko_iload_n (i := 3) dX4_oneWeeps_9 rfl rfl ?_
      first | refine ko_ifb_ne (tgt := 17) dX4_oneWeeps_10 (by decide) (fun c_10 => ?_) (fun c_10 => ?_) | refine ko_if_ne (tgt := 17) dX4_oneWeeps_10 (by decide) (fun c_10 => ?_) (fun c_10 => ?_)
      · refine ko_iconst (v := 0) dX4_oneWeeps_17 (by decide) ?_
        refine ko_zret dX4_oneWeeps_18 rfl rfl (Nat.le_of_ble_eq_true rfl) (Nat.le_of_ble_eq_true rfl) ?_
        simp [owB, kb, c_1, c_6, c_10]
      · refine ko_iconst (v := 1) dX4_oneWeeps_13 (by decide) ?_
        refine ko_goto (tgt := 18) dX4_oneWeeps_14 (by decide) ?_
        refine ko_zret dX4_oneWeeps_18 rfl rfl (Nat.le_of_ble_eq_true rfl) (Nat.le_of_ble_eq_true rfl) ?_
        simp [owB, kb, c_1, c_6, c_10]
set_option maxRecDepth 20000 in
theorem fn_got {G : kx_G} {d N : Nat} {h : kx_H} {o w : Int32} {b1 : Bool}  : kx_Fn mX4_got d 0 0 G [.int o, .int (kb b1), .int w] N h (some (.int (goJ o b1 w)), N, h) := by
  refine kx_Fn_of rfl (Nat.le_of_ble_eq_true rfl) rfl ?_ kx_self
  refine ko_iload_n (i := 2) dX4_got_0 rfl rfl ?_
  refine ko_if_eq (tgt := 8) dX4_got_1 (by decide) (fun c_1 => ?_) (fun c_1 => ?_)
  · refine ko_iload_n (i := 0) dX4_got_8 rfl rfl ?_
    refine ko_if_le (tgt := 20) dX4_got_9 (by decide) (fun c_9 => ?_) (fun c_9 => ?_)
    · refine ko_iconst (v := 0) dX4_got_20 (by decide) ?_
      refine ko_iret dX4_got_21 rfl (Nat.le_of_ble_eq_true rfl) (Nat.le_of_ble_eq_true rfl) ?_
      simp [goJ, c_1, c_9]
    · refine ko_iload_n (i := 1) dX4_got_12 rfl rfl ?_
      first | refine ko_ifb_ne (tgt := 20) dX4_got_13 (by decide) (fun c_13 => ?_) (fun c_13 => ?_) | refine ko_if_ne (tgt := 20) dX4_got_13 (by decide) (fun c_13 => ?_) (fun c_13 => ?_)
      · refine ko_iconst (v := 0) dX4_got_20 (by decide) ?_
        refine ko_iret dX4_got_21 rfl (Nat.le_of_ble_eq_true rfl) (Nat.le_of_ble_eq_true rfl) ?_
        simp [goJ, c_1, c_9, c_13]
      · refine ko_iconst (v := (-1)) dX4_got_16 (by decide) ?_
        refine ko_goto (tgt := 21) dX4_got_17 (by decide) ?_
        refine ko_iret dX4_got_21 rfl (Nat.le_of_ble_eq_true rfl) (Nat.le_of_ble_eq_true rfl) ?_
        simp [goJ, c_1, c_9, c_13]
  · refine ko_iconst (v := 3) dX4_got_4 (by decide) ?_
    refine ko_iload_n (i := 0) dX4_got_5 rfl rfl ?_
    refine ko_isub dX4_got_6 ?_
    refine ko_iret dX4_got_7 rfl (Nat.le_of_ble_eq_true rfl) (Nat.le_of_ble_eq_true rfl) ?_
    simp [goJ, c_1]
set_option maxRecDepth 20000 in
theorem fn_gotByOne {G : kx_G} {d N : Nat} {h : kx_H} {o a : Int32} {b1 b2 : Bool} (hd : 1 ≤ d) : kx_Fn mX4_gotByOne d 0 0 G [.int o, .int a, .int (kb b1), .int (kb b2)] N h (some (.int (g1I o a b1 b2)), N, h) := by
  refine kx_Fn_of rfl (Nat.le_of_ble_eq_true rfl) rfl ?_ kx_self
  refine ko_iload_n (i := 0) dX4_gotByOne_0 rfl rfl ?_
  refine ko_iload_n (i := 2) dX4_gotByOne_1 rfl rfl ?_
  refine ko_iload_n (i := 0) dX4_gotByOne_2 rfl rfl ?_
  refine ko_iload_n (i := 1) dX4_gotByOne_3 rfl rfl ?_
  refine ko_iload_n (i := 2) dX4_gotByOne_4 rfl rfl ?_
  refine ko_iload_n (i := 3) dX4_gotByOne_5 rfl rfl ?_
  refine ko_callSr lk_X4_218 dX4_gotByOne_6 (fn_oneWeeps (d := d - 1)) rfl rfl (by omega) (by omega) (by omega) (Nat.le_of_ble_eq_true rfl) ?_
  refine ko_callSr lk_X4_221 dX4_gotByOne_9 (fn_got (d := d - 1)) rfl rfl (by omega) (by omega) (by omega) (Nat.le_of_ble_eq_true rfl) ?_
  refine ko_iret dX4_gotByOne_12 rfl (Nat.le_of_ble_eq_true rfl) (Nat.le_of_ble_eq_true rfl) ?_
  rfl
set_option maxRecDepth 20000 in
theorem fn_gotByOther {G : kx_G} {d N : Nat} {h : kx_H} {o a : Int32} {b1 b2 : Bool} (hd : 1 ≤ d) : kx_Fn mX4_gotByOther d 0 0 G [.int o, .int a, .int (kb b1), .int (kb b2)] N h (some (.int (g2I o a b1 b2)), N, h) := by
  refine kx_Fn_of rfl (Nat.le_of_ble_eq_true rfl) rfl ?_ kx_self
  refine ko_iload_n (i := 3) dX4_gotByOther_0 rfl rfl ?_
  first | refine ko_ifb_eq (tgt := 18) dX4_gotByOther_1 (by decide) (fun c_1 => ?_) (fun c_1 => ?_) | refine ko_if_eq (tgt := 18) dX4_gotByOther_1 (by decide) (fun c_1 => ?_) (fun c_1 => ?_)
  · refine ko_iconst (v := 0) dX4_gotByOther_18 (by decide) ?_
    refine ko_istore (i := 4) (lv' := [(0, _), (1, _), (2, _), (3, _), (4, _)]) dX4_gotByOther_19 (by decide) rfl rfl rfl ?_
    refine ko_iload_n (i := 1) dX4_gotByOther_21 rfl rfl ?_
    refine ko_iload_n (i := 3) dX4_gotByOther_22 rfl rfl ?_
    refine ko_iload (i := 4) dX4_gotByOther_23 rfl ?_
    refine ko_callSr lk_X4_221 dX4_gotByOther_25 (fn_got (d := d - 1)) rfl rfl (by omega) (by omega) (by omega) (Nat.le_of_ble_eq_true rfl) ?_
    refine ko_iret dX4_gotByOther_28 rfl (Nat.le_of_ble_eq_true rfl) (Nat.le_of_ble_eq_true rfl) ?_
    first
      | (simp [g2I, kb, c_1]; done)
      | (unfold g2I; rw [c_11, c_1]; rfl)
  · refine ko_iload_n (i := 0) dX4_gotByOther_4 rfl rfl ?_
    refine ko_iload_n (i := 1) dX4_gotByOther_5 rfl rfl ?_
    refine ko_iload_n (i := 2) dX4_gotByOther_6 rfl rfl ?_
    refine ko_iload_n (i := 3) dX4_gotByOther_7 rfl rfl ?_
    refine ko_callSr lk_X4_218 dX4_gotByOther_8 (fn_oneWeeps (d := d - 1)) rfl rfl (by omega) (by omega) (by omega) (Nat.le_of_ble_eq_true rfl) ?_
    first | refine ko_ifb_ne (tgt := 18) dX4_gotByOther_11 (by decide) (fun c_11 => ?_) (fun c_11 => ?_) | refine ko_if_ne (tgt := 18) dX4_gotByOther_11 (by decide) (fun c_11 => ?_) (fun c_11 => ?_)
    · refine ko_iconst (v := 0) dX4_gotByOther_18 (by decide) ?_
      refine ko_istore (i := 4) (lv' := [(0, _), (1, _), (2, _), (3, _), (4, _)]) dX4_gotByOther_19 (by decide) rfl rfl rfl ?_
      refine ko_iload_n (i := 1) dX4_gotByOther_21 rfl rfl ?_
      refine ko_iload_n (i := 3) dX4_gotByOther_22 rfl rfl ?_
      refine ko_iload (i := 4) dX4_gotByOther_23 rfl ?_
      refine ko_callSr lk_X4_221 dX4_gotByOther_25 (fn_got (d := d - 1)) rfl rfl (by omega) (by omega) (by omega) (Nat.le_of_ble_eq_true rfl) ?_
      refine ko_iret dX4_gotByOther_28 rfl (Nat.le_of_ble_eq_true rfl) (Nat.le_of_ble_eq_true rfl) ?_
      first
        | (simp [g2I, kb, c_1, c_11]; done)
        | (unfold g2I; rw [c_11, c_1]; rfl)
    · refine ko_iconst (v := 1) dX4_gotByOther_14 (by decide) ?_
      refine ko_goto (tgt := 19) dX4_gotByOther_15 (by decide) ?_
      refine ko_istore (i := 4) (lv' := [(0, _), (1, _), (2, _), (3, _), (4, _)]) dX4_gotByOther_19 (by decide) rfl rfl rfl ?_
      refine ko_iload_n (i := 1) dX4_gotByOther_21 rfl rfl ?_
      refine ko_iload_n (i := 3) dX4_gotByOther_22 rfl rfl ?_
      refine ko_iload (i := 4) dX4_gotByOther_23 rfl ?_
      refine ko_callSr lk_X4_221 dX4_gotByOther_25 (fn_got (d := d - 1)) rfl rfl (by omega) (by omega) (by omega) (Nat.le_of_ble_eq_true rfl) ?_
      refine ko_iret dX4_gotByOther_28 rfl (Nat.le_of_ble_eq_true rfl) (Nat.le_of_ble_eq_true rfl) ?_
      first
        | (simp [g2I, kb, c_1, c_11]; done)
        | (unfold g2I; rw [c_11, c_1]; rfl)
def arB (o a : Int32) (b1 b2 : Bool) : Bool := (List.range 4).all (fun k => !decide (g1I o a b1 b2 < g1I (nI k) a b1 b2) && decide (g2I o (nI k) b1 b2 ≤ g2I o a b1 b2))
set_option maxRecDepth 20000 in
theorem fn_isAtRest {G : kx_G} {d N : Nat} {h : kx_H} {o a : Int32} {b1 b2 : Bool} (hd : 2 ≤ d) : kx_Fn mX4_isAtRest d 0 0 G [.int o, .int a, .int (kb b1), .int (kb b2)] N h (some (.int (kb (arB o a b1 b2))), N, h) := by
  refine kx_Fn_of rfl (Nat.le_of_ble_eq_true rfl) rfl ?_ kx_self
  have LOOP : ∀ (k i : Nat), k + i = 4 → (∀ j, j < i → (!decide (g1I o a b1 b2 < g1I (nI j) a b1 b2) && decide (g2I o (nI j) b1 b2 ≤ g2I o a b1 b2)) = true) → kx_Ok mX4_isAtRest d 0 0 G 0 0 21 [(0, .int o), (1, .int a), (2, .int (kb b1)), (3, .int (kb b2)), (4, .int (g1I o a b1 b2)), (5, .int (g2I o a b1 b2)), (6, .int (nI i))] [] N h (some (.int (kb (arB o a b1 b2))), N, h) := by
    intro k
    induction k with
    | zero =>
      intro i hi hz
      obtain rfl : i = 4 := by omega
      refine ko_iload (i := 6) dX4_isAtRest_21 rfl ?_
      refine ko_iconst (v := 3) dX4_isAtRest_23 (by decide) ?_
      refine ko_icmp_gt (tgt := 61) dX4_isAtRest_24 (by decide) (fun c_24 => ?_) (fun c_24 => ?_)
      · refine ko_iconst (v := 1) dX4_isAtRest_61 (by decide) ?_
        refine ko_zret dX4_isAtRest_62 rfl rfl (Nat.le_of_ble_eq_true rfl) (Nat.le_of_ble_eq_true rfl) ?_
        have e9 : arB o a b1 b2 = true := List.all_eq_true.mpr (fun j hj => hz j (List.mem_range.mp hj))
        rw [e9]
        rfl
      · exact absurd (show nI 3 < nI 4 from nI_lt (by omega) (by omega)) c_24
    | succ k ih =>
      intro i hi hz
      refine ko_iload (i := 6) dX4_isAtRest_21 rfl ?_
      refine ko_iconst (v := 3) dX4_isAtRest_23 (by decide) ?_
      refine ko_icmp_gt (tgt := 61) dX4_isAtRest_24 (by decide) (fun c_24 => ?_) (fun c_24 => ?_)
      · exact absurd (show nI 3 < nI i from c_24) (nI_nlt (by omega) (by omega))
      · refine ko_iload (i := 6) dX4_isAtRest_27 rfl ?_
        refine ko_iload_n (i := 1) dX4_isAtRest_29 rfl rfl ?_
        refine ko_iload_n (i := 2) dX4_isAtRest_30 rfl rfl ?_
        refine ko_iload_n (i := 3) dX4_isAtRest_31 rfl rfl ?_
        refine ko_callSr lk_X4_211 dX4_isAtRest_32 (fn_gotByOne (d := d - 1) (by omega)) rfl rfl (by omega) (by omega) (by omega) (Nat.le_of_ble_eq_true rfl) ?_
        refine ko_iload (i := 4) dX4_isAtRest_35 rfl ?_
        refine ko_icmp_gt (tgt := 53) dX4_isAtRest_37 (by decide) (fun c_37 => ?_) (fun c_37 => ?_)
        · refine ko_iconst (v := 0) dX4_isAtRest_53 (by decide) ?_
          refine ko_zret dX4_isAtRest_54 rfl rfl (Nat.le_of_ble_eq_true rfl) (Nat.le_of_ble_eq_true rfl) ?_
          have e9 : arB o a b1 b2 = false := List.all_eq_false.mpr ⟨i, List.mem_range.mpr (by omega), by simp [c_24, c_37]⟩
          rw [e9]
          rfl
        · refine ko_iload_n (i := 0) dX4_isAtRest_40 rfl rfl ?_
          refine ko_iload (i := 6) dX4_isAtRest_41 rfl ?_
          refine ko_iload_n (i := 2) dX4_isAtRest_43 rfl rfl ?_
          refine ko_iload_n (i := 3) dX4_isAtRest_44 rfl rfl ?_
          refine ko_callSr lk_X4_215 dX4_isAtRest_45 (fn_gotByOther (d := d - 1) (by omega)) rfl rfl (by omega) (by omega) (by omega) (Nat.le_of_ble_eq_true rfl) ?_
          refine ko_iload (i := 5) dX4_isAtRest_48 rfl ?_
          refine ko_icmp_le (tgt := 55) dX4_isAtRest_50 (by decide) (fun c_50 => ?_) (fun c_50 => ?_)
          · refine ko_inc1 (i := 6) (lv' := [(0, _), (1, _), (2, _), (3, _), (4, _), (5, _), (6, _)]) dX4_isAtRest_55 rfl (by decide) rfl rfl rfl ?_
            refine ko_goto (tgt := 21) dX4_isAtRest_58 (by decide) ?_
            exact ko_lv (by simp [nI_succ]) (ih (i + 1) (by omega) (fun j hj => by
                rcases Nat.lt_succ_iff_lt_or_eq.mp hj with hj | rfl
                · exact hz j hj
                · simp [c_24, c_37, c_50]))
          · refine ko_iconst (v := 0) dX4_isAtRest_53 (by decide) ?_
            refine ko_zret dX4_isAtRest_54 rfl rfl (Nat.le_of_ble_eq_true rfl) (Nat.le_of_ble_eq_true rfl) ?_
            have e9 : arB o a b1 b2 = false := List.all_eq_false.mpr ⟨i, List.mem_range.mpr (by omega), by simp [c_24, c_37, c_50]⟩
            rw [e9]
            rfl
  refine ko_iload_n (i := 0) dX4_isAtRest_0 rfl rfl ?_
  refine ko_iload_n (i := 1) dX4_isAtRest_1 rfl rfl ?_
  refine ko_iload_n (i := 2) dX4_isAtRest_2 rfl rfl ?_
  refine ko_iload_n (i := 3) dX4_isAtRest_3 rfl rfl ?_
  refine ko_callSr lk_X4_211 dX4_isAtRest_4 (fn_gotByOne (d := d - 1) (by omega)) rfl rfl (by omega) (by omega) (by omega) (Nat.le_of_ble_eq_true rfl) ?_
  refine ko_istore (i := 4) (lv' := [(0, _), (1, _), (2, _), (3, _), (4, _)]) dX4_isAtRest_7 (by decide) rfl rfl rfl ?_
  refine ko_iload_n (i := 0) dX4_isAtRest_9 rfl rfl ?_
  refine ko_iload_n (i := 1) dX4_isAtRest_10 rfl rfl ?_
  refine ko_iload_n (i := 2) dX4_isAtRest_11 rfl rfl ?_
  refine ko_iload_n (i := 3) dX4_isAtRest_12 rfl rfl ?_
  refine ko_callSr lk_X4_215 dX4_isAtRest_13 (fn_gotByOther (d := d - 1) (by omega)) rfl rfl (by omega) (by omega) (by omega) (Nat.le_of_ble_eq_true rfl) ?_
  refine ko_istore (i := 5) (lv' := [(0, _), (1, _), (2, _), (3, _), (4, _), (5, _)]) dX4_isAtRest_16 (by decide) rfl rfl rfl ?_
  refine ko_iconst (v := 0) dX4_isAtRest_18 (by decide) ?_
  refine ko_istore (i := 6) (lv' := [(0, _), (1, _), (2, _), (3, _), (4, _), (5, _), (6, _)]) dX4_isAtRest_19 (by decide) rfl rfl rfl ?_
  exact LOOP 4 0 rfl (fun j hj => absurd hj (Nat.not_lt_zero j))
def reJ (b1 b2 : Bool) (o : Nat) : Nat → Int32 × Int32 → Int32 × Int32
  | 0, s => s
  | i + 1, s => if arB (nI o) (nI i) b1 b2 = false then reJ b1 b2 o i s else ((reJ b1 b2 o i s).1 + 1, if ¬ (reJ b1 b2 o i s).1 = 0 then (reJ b1 b2 o i s).2 else 10 * nI o + nI i)
def reI (b1 b2 : Bool) : Nat → Int32 × Int32
  | 0 => (0, -9)
  | i + 1 => reJ b1 b2 i 4 (reI b1 b2 i)
def rsB (u : PU) (p q r : Int32) : Bool := hasI (pN u) p && (hasI (pN u) q && hasI (pN u) r)
def rsC (p q r w : Int32) : Bool := !decide (p = q) && (!decide (p = r) && (!decide (q = r) && (!decide (w < 0) && decide (w ≤ 1))))
def rsI (u : PU) (p q r w : Int32) : Int32 := if rsB u p q r = false then -1 else if rsC p q r w = false then -2 else if hbI (pOp u) r = false then -3 else if ¬ w = 0 then (reI (mayI u p r) (mayI u q r) 4).2 else (reI (mayI u p r) (mayI u q r) 4).1
set_option maxRecDepth 20000 in
theorem x_rests {G : kx_G} {d N x : Nat} {h : kx_H} {T : Nat → Int32} {L : Nat} {u : PU} {C : Nat} {Ac K : Nat → PU} {kf : Nat → Int32} {sd : Int64} {p q r w : Int32} (hS : kS h x T L u C Ac K kf sd) (hd : 20 ≤ d) : kx_Fn mX4_rests d 0 0 G [.ref x, .int p, .int q, .int r, .int w] N h (some (.int (rsI u p q r w)), N, h) := by
  refine kx_Fn_of rfl (Nat.le_of_ble_eq_true rfl) rfl ?_ (kx_self)
  obtain ⟨told, trial, F, B, s, f, hi, hf, hF, hC, hB, hL⟩ := id hS
  obtain ⟨s1, s2, s3, s4, s5, s6, s7, s8, s9, s10, s11⟩ := id hi
  have LOOP : (eO : hbI (pOp u) r = true) → (eB : rsB u p q r = true) → (eC : rsC p q r w = true) → ∀ (k i : Nat), k + i = 4 → kx_Ok mX4_rests d 0 0 G 0 0 110 [(0, .ref x), (1, .int p), (2, .int q), (3, .int r), (4, .int w), (5, .int (kb (mayI u p r))), (6, .int (kb (mayI u q r))), (7, .int (reI (mayI u p r) (mayI u q r) i).1), (8, .int (reI (mayI u p r) (mayI u q r) i).2), (9, .int (nI i))] [] N h (some (.int (rsI u p q r w)), N, h) := by
    intro eO eB eC k
    induction k with
    | zero =>
      intro i hi9
      obtain rfl : i = 4 := by omega
      refine ko_iload (i := 9) dX4_rests_110 rfl ?_
      refine ko_iconst (v := 3) dX4_rests_112 (by decide) ?_
      refine ko_icmp_gt (tgt := 174) dX4_rests_113 (by decide) (fun c_113 => ?_) (fun c_113 => ?_)
      · refine ko_iload (i := 4) dX4_rests_174 rfl ?_
        refine ko_if_ne (tgt := 184) dX4_rests_176 (by decide) (fun c_176 => ?_) (fun c_176 => ?_)
        · refine ko_iload (i := 8) dX4_rests_184 rfl ?_
          refine ko_iret dX4_rests_186 rfl (Nat.le_of_ble_eq_true rfl) (Nat.le_of_ble_eq_true rfl) ?_
          unfold rsI
          rw [if_neg (by rw [eB]; decide), if_neg (by rw [eC]; decide), if_neg (by rw [eO]; decide)]
          simp [c_113, c_176]
        · refine ko_iload (i := 7) dX4_rests_179 rfl ?_
          refine ko_goto (tgt := 186) dX4_rests_181 (by decide) ?_
          refine ko_iret dX4_rests_186 rfl (Nat.le_of_ble_eq_true rfl) (Nat.le_of_ble_eq_true rfl) ?_
          unfold rsI
          rw [if_neg (by rw [eB]; decide), if_neg (by rw [eC]; decide), if_neg (by rw [eO]; decide)]
          simp [c_113, c_176]
      · exact absurd (show nI 3 < nI 4 from nI_lt (by omega) (by omega)) c_113
    | succ k ih =>
      intro i hi9
      have LIN : ∀ (kk j : Nat), kk + j = 4 → kx_Ok mX4_rests d 0 0 G 0 0 119 [(0, .ref x), (1, .int p), (2, .int q), (3, .int r), (4, .int w), (5, .int (kb (mayI u p r))), (6, .int (kb (mayI u q r))), (7, .int (reJ (mayI u p r) (mayI u q r) i j (reI (mayI u p r) (mayI u q r) i)).1), (8, .int (reJ (mayI u p r) (mayI u q r) i j (reI (mayI u p r) (mayI u q r) i)).2), (9, .int (nI i)), (10, .int (nI j))] [] N h (some (.int (rsI u p q r w)), N, h) := by
        intro kk
        induction kk with
        | zero =>
          intro j hi
          obtain rfl : j = 4 := by omega
          refine ko_iload (i := 10) dX4_rests_119 rfl ?_
          refine ko_iconst (v := 3) dX4_rests_121 (by decide) ?_
          refine ko_icmp_gt (tgt := 168) dX4_rests_122 (by decide) (fun c_122 => ?_) (fun c_122 => ?_)
          · refine ko_inc1 (i := 9) (lv' := [(0, _), (1, _), (2, _), (3, _), (4, _), (5, _), (6, _), (7, _), (8, _), (9, _), (10, _)]) dX4_rests_168 rfl (by decide) rfl rfl rfl ?_
            refine ko_goto (tgt := 110) dX4_rests_171 (by decide) ?_
            refine ko_keep [0, 1, 2, 3, 4, 5, 6, 7, 8, 9] (lv' := [(0, _), (1, _), (2, _), (3, _), (4, _), (5, _), (6, _), (7, _), (8, _), (9, .int (nI i + 1))]) rfl ?_
            rw [← nI_succ i]
            exact ih (i + 1) (by omega)
          · exact absurd (show nI 3 < nI 4 from nI_lt (by omega) (by omega)) c_122
        | succ kk ihj =>
          intro j hi
          refine ko_iload (i := 10) dX4_rests_119 rfl ?_
          refine ko_iconst (v := 3) dX4_rests_121 (by decide) ?_
          refine ko_icmp_gt (tgt := 168) dX4_rests_122 (by decide) (fun c_122 => ?_) (fun c_122 => ?_)
          · exact absurd (show nI 3 < nI j from c_122) (nI_nlt (by omega) (by omega))
          · refine ko_iload (i := 9) dX4_rests_125 rfl ?_
            refine ko_iload (i := 10) dX4_rests_127 rfl ?_
            refine ko_iload (i := 5) dX4_rests_129 rfl ?_
            refine ko_iload (i := 6) dX4_rests_131 rfl ?_
            refine ko_callSr lk_X4_192 dX4_rests_133 (fn_isAtRest (d := d - 1) (by omega)) rfl rfl (by omega) (by omega) (by omega) (Nat.le_of_ble_eq_true rfl) ?_
            first | refine ko_ifb_eq (tgt := 162) dX4_rests_136 (by decide) (fun c_136 => ?_) (fun c_136 => ?_) | refine ko_if_eq (tgt := 162) dX4_rests_136 (by decide) (fun c_136 => ?_) (fun c_136 => ?_)
            · refine ko_inc1 (i := 10) (lv' := [(0, _), (1, _), (2, _), (3, _), (4, _), (5, _), (6, _), (7, _), (8, _), (9, _), (10, _)]) dX4_rests_162 rfl (by decide) rfl rfl rfl ?_
              refine ko_goto (tgt := 119) dX4_rests_165 (by decide) ?_
              exact ko_lv (by simp [reJ, nI_succ, c_122, c_136]) (ihj (j + 1) (by omega))
            · refine ko_iload (i := 7) dX4_rests_139 rfl ?_
              refine ko_if_ne (tgt := 155) dX4_rests_141 (by decide) (fun c_141 => ?_) (fun c_141 => ?_)
              · refine ko_iload (i := 8) dX4_rests_155 rfl ?_
                refine ko_istore (i := 8) (lv' := [(0, _), (1, _), (2, _), (3, _), (4, _), (5, _), (6, _), (7, _), (8, _), (9, _), (10, _)]) dX4_rests_157 (by decide) rfl rfl rfl ?_
                refine ko_inc1 (i := 7) (lv' := [(0, _), (1, _), (2, _), (3, _), (4, _), (5, _), (6, _), (7, _), (8, _), (9, _), (10, _)]) dX4_rests_159 rfl (by decide) rfl rfl rfl ?_
                refine ko_inc1 (i := 10) (lv' := [(0, _), (1, _), (2, _), (3, _), (4, _), (5, _), (6, _), (7, _), (8, _), (9, _), (10, _)]) dX4_rests_162 rfl (by decide) rfl rfl rfl ?_
                refine ko_goto (tgt := 119) dX4_rests_165 (by decide) ?_
                exact ko_lv (by simp [reJ, nI_succ, c_122, c_136, c_141]) (ihj (j + 1) (by omega))
              · refine ko_bipush (v := 10) dX4_rests_144 (by decide) ?_
                refine ko_iload (i := 9) dX4_rests_146 rfl ?_
                refine ko_imul dX4_rests_148 ?_
                refine ko_iload (i := 10) dX4_rests_149 rfl ?_
                refine ko_iadd dX4_rests_151 ?_
                refine ko_goto (tgt := 157) dX4_rests_152 (by decide) ?_
                refine ko_istore (i := 8) (lv' := [(0, _), (1, _), (2, _), (3, _), (4, _), (5, _), (6, _), (7, _), (8, _), (9, _), (10, _)]) dX4_rests_157 (by decide) rfl rfl rfl ?_
                refine ko_inc1 (i := 7) (lv' := [(0, _), (1, _), (2, _), (3, _), (4, _), (5, _), (6, _), (7, _), (8, _), (9, _), (10, _)]) dX4_rests_159 rfl (by decide) rfl rfl rfl ?_
                refine ko_inc1 (i := 10) (lv' := [(0, _), (1, _), (2, _), (3, _), (4, _), (5, _), (6, _), (7, _), (8, _), (9, _), (10, _)]) dX4_rests_162 rfl (by decide) rfl rfl rfl ?_
                refine ko_goto (tgt := 119) dX4_rests_165 (by decide) ?_
                exact ko_lv (by simp [reJ, nI_succ, c_122, c_136, c_141]) (ihj (j + 1) (by omega))
      refine ko_iload (i := 9) dX4_rests_110 rfl ?_
      refine ko_iconst (v := 3) dX4_rests_112 (by decide) ?_
      refine ko_icmp_gt (tgt := 174) dX4_rests_113 (by decide) (fun c_113 => ?_) (fun c_113 => ?_)
      · exact absurd (show nI 3 < nI i from c_113) (nI_nlt (by omega) (by omega))
      · refine ko_iconst (v := 0) dX4_rests_116 (by decide) ?_
        refine ko_istore (i := 10) (lv' := [(0, _), (1, _), (2, _), (3, _), (4, _), (5, _), (6, _), (7, _), (8, _), (9, _), (10, _)]) dX4_rests_117 (by decide) rfl rfl rfl ?_
        exact LIN 4 0 rfl
  refine ko_aload_n (i := 0) dX4_rests_0 rfl rfl ?_
  refine ko_get fl_X4_19 dX4_rests_1 s1 rfl ?_
  refine ko_iload_n (i := 1) dX4_rests_4 rfl rfl ?_
  refine ko_callVr lk_X4_90 dX4_rests_5 (fn_has (d := d - 1) s5) rfl rfl s5.1 rfl rfl (by omega) (by omega) (by omega) (Nat.le_of_ble_eq_true rfl) ?_
  first | refine ko_ifb_eq (tgt := 33) dX4_rests_8 (by decide) (fun c_8 => ?_) (fun c_8 => ?_) | refine ko_if_eq (tgt := 33) dX4_rests_8 (by decide) (fun c_8 => ?_) (fun c_8 => ?_)
  · refine ko_iconst (v := (-1)) dX4_rests_33 (by decide) ?_
    refine ko_iret dX4_rests_34 rfl (Nat.le_of_ble_eq_true rfl) (Nat.le_of_ble_eq_true rfl) ?_
    simp [rsI, rsB, rsC, c_8]
  · refine ko_aload_n (i := 0) dX4_rests_11 rfl rfl ?_
    refine ko_get fl_X4_19 dX4_rests_12 s1 rfl ?_
    refine ko_iload_n (i := 2) dX4_rests_15 rfl rfl ?_
    refine ko_callVr lk_X4_90 dX4_rests_16 (fn_has (d := d - 1) s5) rfl rfl s5.1 rfl rfl (by omega) (by omega) (by omega) (Nat.le_of_ble_eq_true rfl) ?_
    first | refine ko_ifb_eq (tgt := 33) dX4_rests_19 (by decide) (fun c_19 => ?_) (fun c_19 => ?_) | refine ko_if_eq (tgt := 33) dX4_rests_19 (by decide) (fun c_19 => ?_) (fun c_19 => ?_)
    · refine ko_iconst (v := (-1)) dX4_rests_33 (by decide) ?_
      refine ko_iret dX4_rests_34 rfl (Nat.le_of_ble_eq_true rfl) (Nat.le_of_ble_eq_true rfl) ?_
      simp [rsI, rsB, rsC, c_8, c_19]
    · refine ko_aload_n (i := 0) dX4_rests_22 rfl rfl ?_
      refine ko_get fl_X4_19 dX4_rests_23 s1 rfl ?_
      refine ko_iload_n (i := 3) dX4_rests_26 rfl rfl ?_
      refine ko_callVr lk_X4_90 dX4_rests_27 (fn_has (d := d - 1) s5) rfl rfl s5.1 rfl rfl (by omega) (by omega) (by omega) (Nat.le_of_ble_eq_true rfl) ?_
      first | refine ko_ifb_ne (tgt := 35) dX4_rests_30 (by decide) (fun c_30 => ?_) (fun c_30 => ?_) | refine ko_if_ne (tgt := 35) dX4_rests_30 (by decide) (fun c_30 => ?_) (fun c_30 => ?_)
      · refine ko_iload_n (i := 1) dX4_rests_35 rfl rfl ?_
        refine ko_iload_n (i := 2) dX4_rests_36 rfl rfl ?_
        refine ko_icmp_eq (tgt := 61) dX4_rests_37 (by decide) (fun c_37 => ?_) (fun c_37 => ?_)
        · refine ko_bipush (v := (-2)) dX4_rests_61 (by decide) ?_
          refine ko_iret dX4_rests_63 rfl (Nat.le_of_ble_eq_true rfl) (Nat.le_of_ble_eq_true rfl) ?_
          simp [rsI, rsB, rsC, c_8, c_19, c_30, c_37]
        · refine ko_iload_n (i := 1) dX4_rests_40 rfl rfl ?_
          refine ko_iload_n (i := 3) dX4_rests_41 rfl rfl ?_
          refine ko_icmp_eq (tgt := 61) dX4_rests_42 (by decide) (fun c_42 => ?_) (fun c_42 => ?_)
          · refine ko_bipush (v := (-2)) dX4_rests_61 (by decide) ?_
            refine ko_iret dX4_rests_63 rfl (Nat.le_of_ble_eq_true rfl) (Nat.le_of_ble_eq_true rfl) ?_
            simp [rsI, rsB, rsC, c_8, c_19, c_30, c_37, c_42]
          · refine ko_iload_n (i := 2) dX4_rests_45 rfl rfl ?_
            refine ko_iload_n (i := 3) dX4_rests_46 rfl rfl ?_
            refine ko_icmp_eq (tgt := 61) dX4_rests_47 (by decide) (fun c_47 => ?_) (fun c_47 => ?_)
            · refine ko_bipush (v := (-2)) dX4_rests_61 (by decide) ?_
              refine ko_iret dX4_rests_63 rfl (Nat.le_of_ble_eq_true rfl) (Nat.le_of_ble_eq_true rfl) ?_
              simp [rsI, rsB, rsC, c_8, c_19, c_30, c_37, c_42, c_47]
            · refine ko_iload (i := 4) dX4_rests_50 rfl ?_
              refine ko_if_lt (tgt := 61) dX4_rests_52 (by decide) (fun c_52 => ?_) (fun c_52 => ?_)
              · refine ko_bipush (v := (-2)) dX4_rests_61 (by decide) ?_
                refine ko_iret dX4_rests_63 rfl (Nat.le_of_ble_eq_true rfl) (Nat.le_of_ble_eq_true rfl) ?_
                simp [rsI, rsB, rsC, c_8, c_19, c_30, c_37, c_42, c_47, c_52]
              · refine ko_iload (i := 4) dX4_rests_55 rfl ?_
                refine ko_iconst (v := 1) dX4_rests_57 (by decide) ?_
                refine ko_icmp_le (tgt := 64) dX4_rests_58 (by decide) (fun c_58 => ?_) (fun c_58 => ?_)
                · refine ko_aload_n (i := 0) dX4_rests_64 rfl rfl ?_
                  refine ko_get fl_X4_19 dX4_rests_65 s1 rfl ?_
                  refine ko_iload_n (i := 3) dX4_rests_68 rfl rfl ?_
                  refine ko_callVr lk_X4_117 dX4_rests_69 (fn_isOpen (d := d - 1) s5 (by omega)) rfl rfl s5.1 rfl rfl (by omega) (by omega) (by omega) (Nat.le_of_ble_eq_true rfl) ?_
                  first | refine ko_ifb_ne (tgt := 78) dX4_rests_72 (by decide) (fun c_72 => ?_) (fun c_72 => ?_) | refine ko_if_ne (tgt := 78) dX4_rests_72 (by decide) (fun c_72 => ?_) (fun c_72 => ?_)
                  · refine ko_aload_n (i := 0) dX4_rests_78 rfl rfl ?_
                    refine ko_get fl_X4_19 dX4_rests_79 s1 rfl ?_
                    refine ko_iload_n (i := 1) dX4_rests_82 rfl rfl ?_
                    refine ko_iload_n (i := 3) dX4_rests_83 rfl rfl ?_
                    refine ko_callVr lk_X4_132 dX4_rests_84 (fn_mayWeep (d := d - 1) s5 (by omega)) rfl rfl s5.1 rfl rfl (by omega) (by omega) (by omega) (Nat.le_of_ble_eq_true rfl) ?_
                    refine ko_istore (i := 5) (lv' := [(0, _), (1, _), (2, _), (3, _), (4, _), (5, _)]) dX4_rests_87 (by decide) rfl rfl rfl ?_
                    refine ko_aload_n (i := 0) dX4_rests_89 rfl rfl ?_
                    refine ko_get fl_X4_19 dX4_rests_90 s1 rfl ?_
                    refine ko_iload_n (i := 2) dX4_rests_93 rfl rfl ?_
                    refine ko_iload_n (i := 3) dX4_rests_94 rfl rfl ?_
                    refine ko_callVr lk_X4_132 dX4_rests_95 (fn_mayWeep (d := d - 1) s5 (by omega)) rfl rfl s5.1 rfl rfl (by omega) (by omega) (by omega) (Nat.le_of_ble_eq_true rfl) ?_
                    refine ko_istore (i := 6) (lv' := [(0, _), (1, _), (2, _), (3, _), (4, _), (5, _), (6, _)]) dX4_rests_98 (by decide) rfl rfl rfl ?_
                    refine ko_iconst (v := 0) dX4_rests_100 (by decide) ?_
                    refine ko_istore (i := 7) (lv' := [(0, _), (1, _), (2, _), (3, _), (4, _), (5, _), (6, _), (7, _)]) dX4_rests_101 (by decide) rfl rfl rfl ?_
                    refine ko_bipush (v := (-9)) dX4_rests_103 (by decide) ?_
                    refine ko_istore (i := 8) (lv' := [(0, _), (1, _), (2, _), (3, _), (4, _), (5, _), (6, _), (7, _), (8, _)]) dX4_rests_105 (by decide) rfl rfl rfl ?_
                    refine ko_iconst (v := 0) dX4_rests_107 (by decide) ?_
                    refine ko_istore (i := 9) (lv' := [(0, _), (1, _), (2, _), (3, _), (4, _), (5, _), (6, _), (7, _), (8, _), (9, _)]) dX4_rests_108 (by decide) rfl rfl rfl ?_
                    exact LOOP c_72 (by simp [rsB, c_8, c_19, c_30]) (by simp [rsC, c_37, c_42, c_47, c_52, c_58]) 4 0 rfl
                  · refine ko_bipush (v := (-3)) dX4_rests_75 (by decide) ?_
                    refine ko_iret dX4_rests_77 rfl (Nat.le_of_ble_eq_true rfl) (Nat.le_of_ble_eq_true rfl) ?_
                    simp [rsI, rsB, rsC, c_8, c_19, c_30, c_37, c_42, c_47, c_52, c_58, c_72]
                · refine ko_bipush (v := (-2)) dX4_rests_61 (by decide) ?_
                  refine ko_iret dX4_rests_63 rfl (Nat.le_of_ble_eq_true rfl) (Nat.le_of_ble_eq_true rfl) ?_
                  simp [rsI, rsB, rsC, c_8, c_19, c_30, c_37, c_42, c_47, c_52, c_58]
      · refine ko_iconst (v := (-1)) dX4_rests_33 (by decide) ?_
        refine ko_iret dX4_rests_34 rfl (Nat.le_of_ble_eq_true rfl) (Nat.le_of_ble_eq_true rfl) ?_
        simp [rsI, rsB, rsC, c_8, c_19, c_30]
def fcF (k : Nat) : Int32 := if k = 0 then 1 else if k = 1 then 1 else if k = 2 then 2 else if k = 3 then 6 else if k = 4 then 24 else 120
def faI (p : Int32) : Int32 := if p < 0 then 0 else if 6 ≤ p then 0 else fcF p.toNatClampNeg
theorem in6 {p : Int32} (h1 : ¬ p < 0) (h2 : ¬ 6 ≤ p) : vp_in p 6 := by
  obtain ⟨j, hj, e, -⟩ := pk_mu (L := 6) h1 h2 (by decide)
  rw [e]
  exact vp_in_nI hj (by decide)
def poI (b : Int32) : Nat → Int32
  | 0 => 1
  | i + 1 => poI b i * b
def frN : Nat → Int32 → Int32 → Int32
  | 0, c, _ => c
  | k + 1, c, r => if r ≤ 0 then c else frN k r (c - c / r * r)
def frI (a b : Int32) (up : Bool) : Int32 := if frN 64 b a ≤ 0 then 0 else (if up = true then a else b) / frN 64 b a
set_option maxRecDepth 20000 in
theorem fn_factorial {G : kx_G} {d N : Nat} {h : kx_H} {p : Int32} (hG : G.2 G.1 = some (6, fcF)) : kx_Fn mX4_factorial d 0 0 G [.int p] N h (some (.int (faI p)), N, h) := by
  refine kx_Fn_of rfl (Nat.le_of_ble_eq_true rfl) rfl ?_ kx_self
  refine ko_iload_n (i := 0) dX4_factorial_0 rfl rfl ?_
  refine ko_if_lt (tgt := 20) dX4_factorial_1 (by decide) (fun c_1 => ?_) (fun c_1 => ?_)
  · refine ko_iconst (v := 0) dX4_factorial_20 (by decide) ?_
    refine ko_iret dX4_factorial_21 rfl (Nat.le_of_ble_eq_true rfl) (Nat.le_of_ble_eq_true rfl) ?_
    first
      | (simp [faI, c_1]; done)
      | simp [faI, c_1, c9]
  · refine ko_iload_n (i := 0) dX4_factorial_4 rfl rfl ?_
    refine ko_gets fs_X4_225 dX4_factorial_5 ?_
    refine ko_rlen dX4_factorial_8 hG ?_
    refine ko_icmp_ge (tgt := 20) dX4_factorial_9 (by decide) (fun c_9 => ?_) (fun c_9 => ?_)
    · have c9 : (6 : Int32) ≤ p := c_9
      refine ko_iconst (v := 0) dX4_factorial_20 (by decide) ?_
      refine ko_iret dX4_factorial_21 rfl (Nat.le_of_ble_eq_true rfl) (Nat.le_of_ble_eq_true rfl) ?_
      first
        | (simp [faI, c_1, c_9]; done)
        | simp [faI, c_1, c9]
    · have c9 : ¬ (6 : Int32) ≤ p := c_9
      refine ko_gets fs_X4_225 dX4_factorial_12 ?_
      refine ko_iload_n (i := 0) dX4_factorial_15 rfl rfl ?_
      refine ko_rald dX4_factorial_16 hG (in6 c_1 c_9) ?_
      refine ko_goto (tgt := 21) dX4_factorial_17 (by decide) ?_
      refine ko_iret dX4_factorial_21 rfl (Nat.le_of_ble_eq_true rfl) (Nat.le_of_ble_eq_true rfl) ?_
      first
        | (simp [faI, c_1, c_9]; done)
        | simp [faI, c_1, c9]
set_option maxRecDepth 20000 in
theorem fn_power {G : kx_G} {d N t : Nat} {h : kx_H} {b : Int32} (ht : t < 2 ^ 31) : kx_Fn mX4_power d 0 0 G [.int b, .int (nI t)] N h (some (.int (poI b t)), N, h) := by
  refine kx_Fn_of rfl (Nat.le_of_ble_eq_true rfl) rfl ?_ kx_self
  have LOOP : ∀ (k i : Nat), k + i = t → kx_Ok mX4_power d 0 0 G 0 0 4 [(0, .int b), (1, .int (nI t)), (2, .int (poI b i)), (3, .int (nI i))] [] N h (some (.int (poI b t)), N, h) := by
    intro k
    induction k with
    | zero =>
      intro i hi
      obtain rfl : t = i := by omega
      refine ko_iload_n (i := 3) dX4_power_4 rfl rfl ?_
      refine ko_iload_n (i := 1) dX4_power_5 rfl rfl ?_
      refine ko_icmp_ge (tgt := 19) dX4_power_6 (by decide) (fun c_6 => ?_) (fun c_6 => ?_)
      · refine ko_iload_n (i := 2) dX4_power_19 rfl rfl ?_
        refine ko_iret dX4_power_20 rfl (Nat.le_of_ble_eq_true rfl) (Nat.le_of_ble_eq_true rfl) ?_
        rfl
      · exact absurd (show nI t ≤ nI t by rw [(rfl : nI t = nI t)]; exact nI_le (Nat.le_refl _) (by omega)) c_6
    | succ k ih =>
      intro i hi
      refine ko_iload_n (i := 3) dX4_power_4 rfl rfl ?_
      refine ko_iload_n (i := 1) dX4_power_5 rfl rfl ?_
      refine ko_icmp_ge (tgt := 19) dX4_power_6 (by decide) (fun c_6 => ?_) (fun c_6 => ?_)
      · exact absurd (show nI t ≤ nI i from by rw [← (rfl : nI t = nI t)]; exact c_6) (nI_ge (by omega) (by omega))
      · refine ko_iload_n (i := 2) dX4_power_9 rfl rfl ?_
        refine ko_iload_n (i := 0) dX4_power_10 rfl rfl ?_
        refine ko_imul dX4_power_11 ?_
        refine ko_istore_n (i := 2) (lv' := [(0, _), (1, _), (2, _), (3, _)]) dX4_power_12 rfl (by decide) rfl rfl rfl ?_
        refine ko_inc1 (i := 3) (lv' := [(0, _), (1, _), (2, _), (3, _)]) dX4_power_13 rfl (by decide) rfl rfl rfl ?_
        refine ko_goto (tgt := 4) dX4_power_16 (by decide) ?_
        exact ko_lv (by simp [poI, nI_succ]) (ih (i + 1) (by omega))
  refine ko_iconst (v := 1) dX4_power_0 (by decide) ?_
  refine ko_istore_n (i := 2) (lv' := [(0, _), (1, _), (2, _)]) dX4_power_1 rfl (by decide) rfl rfl rfl ?_
  refine ko_iconst (v := 0) dX4_power_2 (by decide) ?_
  refine ko_istore_n (i := 3) (lv' := [(0, _), (1, _), (2, _), (3, _)]) dX4_power_3 rfl (by decide) rfl rfl rfl ?_
  exact LOOP t 0 (by omega)
set_option maxRecDepth 20000 in
theorem fn_fraction {G : kx_G} {d N : Nat} {h : kx_H} {a b : Int32} {up : Bool} : kx_Fn mX4_fraction d 0 0 G [.int a, .int b, .int (kb up)] N h (some (.int (frI a b up)), N, h) := by
  refine kx_Fn_of rfl (Nat.le_of_ble_eq_true rfl) rfl ?_ kx_self
  have LOOP : ∀ (k i : Nat) (c r : Int32), k + i = 64 → kx_Ok mX4_fraction d 0 0 G 0 0 8 [(0, .int a), (1, .int b), (2, .int (kb up)), (3, .int c), (4, .int r), (5, .int (nI i))] [] N h (some (.int (if frN k c r ≤ 0 then 0 else (if up = true then a else b) / frN k c r)), N, h) := by
    intro k
    induction k with
    | zero =>
      intro i c r hi9
      obtain rfl : i = 64 := by omega
      refine ko_iload (i := 4) dX4_fraction_8 rfl ?_
      refine ko_if_le (tgt := 39) dX4_fraction_10 (by decide) (fun c_10 => ?_) (fun c_10 => ?_)
      · refine ko_iload_n (i := 3) dX4_fraction_39 rfl rfl ?_
        refine ko_if_le (tgt := 57) dX4_fraction_40 (by decide) (fun c_40 => ?_) (fun c_40 => ?_)
        · refine ko_iconst (v := 0) dX4_fraction_57 (by decide) ?_
          refine ko_iret dX4_fraction_58 rfl (Nat.le_of_ble_eq_true rfl) (Nat.le_of_ble_eq_true rfl) ?_
          simp [frN, c_10, c_40]
        · refine ko_iload_n (i := 2) dX4_fraction_43 rfl rfl ?_
          first | refine ko_ifb_eq (tgt := 51) dX4_fraction_44 (by decide) (fun c_44 => ?_) (fun c_44 => ?_) | refine ko_if_eq (tgt := 51) dX4_fraction_44 (by decide) (fun c_44 => ?_) (fun c_44 => ?_)
          · refine ko_iload_n (i := 1) dX4_fraction_51 rfl rfl ?_
            refine ko_iload_n (i := 3) dX4_fraction_52 rfl rfl ?_
            refine ko_idiv dX4_fraction_53 (fun z => c_40 (by rw [z]; exact Int32.le_refl _)) ?_
            refine ko_goto (tgt := 58) dX4_fraction_54 (by decide) ?_
            refine ko_iret dX4_fraction_58 rfl (Nat.le_of_ble_eq_true rfl) (Nat.le_of_ble_eq_true rfl) ?_
            simp [frN, c_10, c_40, c_44]
          · refine ko_iload_n (i := 0) dX4_fraction_47 rfl rfl ?_
            refine ko_goto (tgt := 52) dX4_fraction_48 (by decide) ?_
            refine ko_iload_n (i := 3) dX4_fraction_52 rfl rfl ?_
            refine ko_idiv dX4_fraction_53 (fun z => c_40 (by rw [z]; exact Int32.le_refl _)) ?_
            refine ko_goto (tgt := 58) dX4_fraction_54 (by decide) ?_
            refine ko_iret dX4_fraction_58 rfl (Nat.le_of_ble_eq_true rfl) (Nat.le_of_ble_eq_true rfl) ?_
            simp [frN, c_10, c_40, c_44]
      · refine ko_iload (i := 5) dX4_fraction_13 rfl ?_
        refine ko_bipush (v := 64) dX4_fraction_15 (by decide) ?_
        refine ko_icmp_ge (tgt := 39) dX4_fraction_17 (by decide) (fun c_17 => ?_) (fun c_17 => ?_)
        · refine ko_iload_n (i := 3) dX4_fraction_39 rfl rfl ?_
          refine ko_if_le (tgt := 57) dX4_fraction_40 (by decide) (fun c_40 => ?_) (fun c_40 => ?_)
          · refine ko_iconst (v := 0) dX4_fraction_57 (by decide) ?_
            refine ko_iret dX4_fraction_58 rfl (Nat.le_of_ble_eq_true rfl) (Nat.le_of_ble_eq_true rfl) ?_
            simp [frN, c_10, c_17, c_40]
          · refine ko_iload_n (i := 2) dX4_fraction_43 rfl rfl ?_
            first | refine ko_ifb_eq (tgt := 51) dX4_fraction_44 (by decide) (fun c_44 => ?_) (fun c_44 => ?_) | refine ko_if_eq (tgt := 51) dX4_fraction_44 (by decide) (fun c_44 => ?_) (fun c_44 => ?_)
            · refine ko_iload_n (i := 1) dX4_fraction_51 rfl rfl ?_
              refine ko_iload_n (i := 3) dX4_fraction_52 rfl rfl ?_
              refine ko_idiv dX4_fraction_53 (fun z => c_40 (by rw [z]; exact Int32.le_refl _)) ?_
              refine ko_goto (tgt := 58) dX4_fraction_54 (by decide) ?_
              refine ko_iret dX4_fraction_58 rfl (Nat.le_of_ble_eq_true rfl) (Nat.le_of_ble_eq_true rfl) ?_
              simp [frN, c_10, c_17, c_40, c_44]
            · refine ko_iload_n (i := 0) dX4_fraction_47 rfl rfl ?_
              refine ko_goto (tgt := 52) dX4_fraction_48 (by decide) ?_
              refine ko_iload_n (i := 3) dX4_fraction_52 rfl rfl ?_
              refine ko_idiv dX4_fraction_53 (fun z => c_40 (by rw [z]; exact Int32.le_refl _)) ?_
              refine ko_goto (tgt := 58) dX4_fraction_54 (by decide) ?_
              refine ko_iret dX4_fraction_58 rfl (Nat.le_of_ble_eq_true rfl) (Nat.le_of_ble_eq_true rfl) ?_
              simp [frN, c_10, c_17, c_40, c_44]
        · exact absurd (show nI 64 ≤ nI 64 from nI_le (by omega) (by omega)) c_17
    | succ k ih =>
      intro i c r hi9
      refine ko_iload (i := 4) dX4_fraction_8 rfl ?_
      refine ko_if_le (tgt := 39) dX4_fraction_10 (by decide) (fun c_10 => ?_) (fun c_10 => ?_)
      · refine ko_iload_n (i := 3) dX4_fraction_39 rfl rfl ?_
        refine ko_if_le (tgt := 57) dX4_fraction_40 (by decide) (fun c_40 => ?_) (fun c_40 => ?_)
        · refine ko_iconst (v := 0) dX4_fraction_57 (by decide) ?_
          refine ko_iret dX4_fraction_58 rfl (Nat.le_of_ble_eq_true rfl) (Nat.le_of_ble_eq_true rfl) ?_
          simp [frN, c_10, c_40]
        · refine ko_iload_n (i := 2) dX4_fraction_43 rfl rfl ?_
          first | refine ko_ifb_eq (tgt := 51) dX4_fraction_44 (by decide) (fun c_44 => ?_) (fun c_44 => ?_) | refine ko_if_eq (tgt := 51) dX4_fraction_44 (by decide) (fun c_44 => ?_) (fun c_44 => ?_)
          · refine ko_iload_n (i := 1) dX4_fraction_51 rfl rfl ?_
            refine ko_iload_n (i := 3) dX4_fraction_52 rfl rfl ?_
            refine ko_idiv dX4_fraction_53 (fun z => c_40 (by rw [z]; exact Int32.le_refl _)) ?_
            refine ko_goto (tgt := 58) dX4_fraction_54 (by decide) ?_
            refine ko_iret dX4_fraction_58 rfl (Nat.le_of_ble_eq_true rfl) (Nat.le_of_ble_eq_true rfl) ?_
            simp [frN, c_10, c_40, c_44]
          · refine ko_iload_n (i := 0) dX4_fraction_47 rfl rfl ?_
            refine ko_goto (tgt := 52) dX4_fraction_48 (by decide) ?_
            refine ko_iload_n (i := 3) dX4_fraction_52 rfl rfl ?_
            refine ko_idiv dX4_fraction_53 (fun z => c_40 (by rw [z]; exact Int32.le_refl _)) ?_
            refine ko_goto (tgt := 58) dX4_fraction_54 (by decide) ?_
            refine ko_iret dX4_fraction_58 rfl (Nat.le_of_ble_eq_true rfl) (Nat.le_of_ble_eq_true rfl) ?_
            simp [frN, c_10, c_40, c_44]
      · refine ko_iload (i := 5) dX4_fraction_13 rfl ?_
        refine ko_bipush (v := 64) dX4_fraction_15 (by decide) ?_
        refine ko_icmp_ge (tgt := 39) dX4_fraction_17 (by decide) (fun c_17 => ?_) (fun c_17 => ?_)
        · exact absurd (show nI 64 ≤ nI i from c_17) (nI_ge (by omega) (by omega))
        · refine ko_iload_n (i := 3) dX4_fraction_20 rfl rfl ?_
          refine ko_iload (i := 4) dX4_fraction_21 rfl ?_
          refine ko_irem dX4_fraction_23 (fun z => c_10 (by rw [z]; exact Int32.le_refl _)) ?_
          refine ko_istore (i := 6) (lv' := [(0, _), (1, _), (2, _), (3, _), (4, _), (5, _), (6, _)]) dX4_fraction_24 (by decide) rfl rfl rfl ?_
          refine ko_iload (i := 4) dX4_fraction_26 rfl ?_
          refine ko_istore_n (i := 3) (lv' := [(0, _), (1, _), (2, _), (3, _), (4, _), (5, _), (6, _)]) dX4_fraction_28 rfl (by decide) rfl rfl rfl ?_
          refine ko_iload (i := 6) dX4_fraction_29 rfl ?_
          refine ko_istore (i := 4) (lv' := [(0, _), (1, _), (2, _), (3, _), (4, _), (5, _), (6, _)]) dX4_fraction_31 (by decide) rfl rfl rfl ?_
          refine ko_inc1 (i := 5) (lv' := [(0, _), (1, _), (2, _), (3, _), (4, _), (5, _), (6, _)]) dX4_fraction_33 rfl (by decide) rfl rfl rfl ?_
          refine ko_goto (tgt := 8) dX4_fraction_36 (by decide) ?_
          refine ko_keep [0, 1, 2, 3, 4, 5] (lv' := [(0, _), (1, _), (2, _), (3, _), (4, _), (5, .int (nI i + 1))]) rfl ?_
          rw [← nI_succ i]
          simp only [frN, if_neg c_10]
          exact ih (i + 1) _ _ (by omega)
  refine ko_iload_n (i := 1) dX4_fraction_0 rfl rfl ?_
  refine ko_istore_n (i := 3) (lv' := [(0, _), (1, _), (2, _), (3, _)]) dX4_fraction_1 rfl (by decide) rfl rfl rfl ?_
  refine ko_iload_n (i := 0) dX4_fraction_2 rfl rfl ?_
  refine ko_istore (i := 4) (lv' := [(0, _), (1, _), (2, _), (3, _), (4, _)]) dX4_fraction_3 (by decide) rfl rfl rfl ?_
  refine ko_iconst (v := 0) dX4_fraction_5 (by decide) ?_
  refine ko_istore (i := 5) (lv' := [(0, _), (1, _), (2, _), (3, _), (4, _), (5, _)]) dX4_fraction_6 (by decide) rfl rfl rfl ?_
  exact LOOP 64 0 _ _ rfl
