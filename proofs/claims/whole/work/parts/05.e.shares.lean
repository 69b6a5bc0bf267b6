/-! ===== the object: weighed, shares, chances, years, its making ===== -/
def wgI (u : PU) (pe us : Int32) : Nat → Int32
  | 0 => 0
  | i + 1 => if hbI us (nI i) = true then wgI u pe us i + 2 else if hbI pe (nI i) = true then wgI u pe us i + ozI u (nI i) else wgI u pe us i
set_option maxRecDepth 20000 in
theorem x_weight {G : kx_G} {d N x : Nat} {h : kx_H} {T : Nat → Int32} {L : Nat} {u : PU} {C : Nat} {Ac K : Nat → PU} {kf : Nat → Int32} {sd : Int64} {n : Nat} {pe us : Int32} (hS : kS h x T L u C Ac K kf sd) (hn : pN u = nI n) (hm : n ≤ 5) (hd : 3 ≤ d) : kx_Fn mX4_weight d 0 0 G [.ref x, .int pe, .int us] N h (some (.int (wgI u pe us n)), N, h) := by
  refine kx_Fn_of rfl (Nat.le_of_ble_eq_true rfl) rfl ?_ (kx_self)
  obtain ⟨told, trial, F, B, s, f, hi, hf, hF, hC, hB, hL⟩ := id hS
  obtain ⟨s1, s2, s3, s4, s5, s6, s7, s8, s9, s10, s11⟩ := id hi
  have LOOP : ∀ (k i : Nat), k + i = n → kx_Ok mX4_weight d 0 0 G 0 0 5 [(0, .ref x), (1, .int pe), (2, .int us), (3, .int (wgI u pe us i)), (4, .int (nI i))] [] N h (some (.int (wgI u pe us n)), N, h) := by
    intro k
    induction k with
    | zero =>
      intro i hi
      obtain rfl : n = i := by omega
      refine ko_iload (i := 4) dX4_weight_5 rfl ?_
      refine ko_aload_n (i := 0) dX4_weight_7 rfl rfl ?_
      refine ko_get fl_X4_19 dX4_weight_8 s1 rfl ?_
      refine ko_get fl_X4_74 dX4_weight_11 s5.1 rfl ?_
      refine ko_icmp_ge (tgt := 59) dX4_weight_14 (by decide) (fun c_14 => ?_) (fun c_14 => ?_)
      · refine ko_iload_n (i := 3) dX4_weight_59 rfl rfl ?_
        refine ko_iret dX4_weight_60 rfl (Nat.le_of_ble_eq_true rfl) (Nat.le_of_ble_eq_true rfl) ?_
        rfl
      · exact absurd (show pN u ≤ nI n by rw [hn]; exact nI_le (Nat.le_refl _) (by omega)) c_14
    | succ k ih =>
      intro i hi
      refine ko_iload (i := 4) dX4_weight_5 rfl ?_
      refine ko_aload_n (i := 0) dX4_weight_7 rfl rfl ?_
      refine ko_get fl_X4_19 dX4_weight_8 s1 rfl ?_
      refine ko_get fl_X4_74 dX4_weight_11 s5.1 rfl ?_
      refine ko_icmp_ge (tgt := 59) dX4_weight_14 (by decide) (fun c_14 => ?_) (fun c_14 => ?_)
      · exact absurd (show nI n ≤ nI i from by rw [← hn]; exact c_14) (nI_ge (by omega) (by omega))
      · refine ko_iload_n (i := 2) dX4_weight_17 rfl rfl ?_
        refine ko_iload (i := 4) dX4_weight_18 rfl ?_
        refine ko_callSr lk_X4_208 dX4_weight_20 (fn_hasBit (d := d - 1)) rfl rfl (by omega) (by omega) (by omega) (Nat.le_of_ble_eq_true rfl) ?_
        first | refine ko_ifb_eq (tgt := 32) dX4_weight_23 (by decide) (fun c_23 => ?_) (fun c_23 => ?_) | refine ko_if_eq (tgt := 32) dX4_weight_23 (by decide) (fun c_23 => ?_) (fun c_23 => ?_)
        · refine ko_iload_n (i := 1) dX4_weight_32 rfl rfl ?_
          refine ko_iload (i := 4) dX4_weight_33 rfl ?_
          refine ko_callSr lk_X4_208 dX4_weight_35 (fn_hasBit (d := d - 1)) rfl rfl (by omega) (by omega) (by omega) (Nat.le_of_ble_eq_true rfl) ?_
          first | refine ko_ifb_eq (tgt := 53) dX4_weight_38 (by decide) (fun c_38 => ?_) (fun c_38 => ?_) | refine ko_if_eq (tgt := 53) dX4_weight_38 (by decide) (fun c_38 => ?_) (fun c_38 => ?_)
          · refine ko_inc1 (i := 4) (lv' := [(0, _), (1, _), (2, _), (3, _), (4, _)]) dX4_weight_53 rfl (by decide) rfl rfl rfl ?_
            refine ko_goto (tgt := 5) dX4_weight_56 (by decide) ?_
            exact ko_lv (by simp [wgI, nI_succ, c_14, c_23, c_38]) (ih (i + 1) (by omega))
          · refine ko_iload_n (i := 3) dX4_weight_41 rfl rfl ?_
            refine ko_aload_n (i := 0) dX4_weight_42 rfl rfl ?_
            refine ko_get fl_X4_19 dX4_weight_43 s1 rfl ?_
            refine ko_iload (i := 4) dX4_weight_46 rfl ?_
            refine ko_callVr lk_X4_106 dX4_weight_48 (fn_ounces (d := d - 1) s5 (by omega)) rfl rfl s5.1 rfl rfl (by omega) (by omega) (by omega) (Nat.le_of_ble_eq_true rfl) ?_
            refine ko_iadd dX4_weight_51 ?_
            refine ko_istore_n (i := 3) (lv' := [(0, _), (1, _), (2, _), (3, _), (4, _)]) dX4_weight_52 rfl (by decide) rfl rfl rfl ?_
            refine ko_inc1 (i := 4) (lv' := [(0, _), (1, _), (2, _), (3, _), (4, _)]) dX4_weight_53 rfl (by decide) rfl rfl rfl ?_
            refine ko_goto (tgt := 5) dX4_weight_56 (by decide) ?_
            exact ko_lv (by simp [wgI, nI_succ, c_14, c_23, c_38]) (ih (i + 1) (by omega))
        · refine ko_iinc (i := 3) (v := _ + 2) (lv' := [(0, _), (1, _), (2, _), (3, _), (4, _)]) dX4_weight_26 rfl rfl (by decide) rfl rfl rfl ?_
          refine ko_goto (tgt := 53) dX4_weight_29 (by decide) ?_
          refine ko_inc1 (i := 4) (lv' := [(0, _), (1, _), (2, _), (3, _), (4, _)]) dX4_weight_53 rfl (by decide) rfl rfl rfl ?_
          refine ko_goto (tgt := 5) dX4_weight_56 (by decide) ?_
          exact ko_lv (by simp [wgI, nI_succ, c_14, c_23]) (ih (i + 1) (by omega))
  refine ko_iconst (v := 0) dX4_weight_0 (by decide) ?_
  refine ko_istore_n (i := 3) (lv' := [(0, _), (1, _), (2, _), (3, _)]) dX4_weight_1 rfl (by decide) rfl rfl rfl ?_
  refine ko_iconst (v := 0) dX4_weight_2 (by decide) ?_
  refine ko_istore (i := 4) (lv' := [(0, _), (1, _), (2, _), (3, _), (4, _)]) dX4_weight_3 (by decide) rfl rfl rfl ?_
  exact LOOP n 0 (by omega)
def sbI (a m : Int32) : Int32 := a &&& (m ^^^ (-1))
def wdS (u : PU) (n m : Nat) (sum : Int32) : Nat → Int32 × Int32 × Int32
  | 0 => (0, nI m, 0)
  | i + 1 => if ¬ sbI (nI i) (nI m) = 0 then wdS u n m sum i else if ¬ wgI u (nI m) (nI i) n = sum then wdS u n m sum i else ((wdS u n m sum i).1 + 1, (wdS u n m sum i).2.1 &&& nI i, (wdS u n m sum i).2.2 ||| nI i)
def wdB (u : PU) (pe sum w : Int32) : Bool := decide (sbI pe (evI (pN u)) = 0) && (!decide (sum < 0) && (!decide (45 < sum) && (!decide (w < 0) && decide (w ≤ 2))))
def wdI (m : Nat) (S : Int32 × Int32 × Int32) (w : Int32) : Int32 := if w = 0 then S.1 else if S.1 = 0 then -9 else if ¬ w = 1 then nI m &&& (S.2.2 ^^^ (-1)) else S.2.1
set_option maxRecDepth 20000 in
theorem x_weighed0 {G : kx_G} {d N x : Nat} {h : kx_H} {T : Nat → Int32} {L : Nat} {u : PU} {C : Nat} {Ac K : Nat → PU} {kf : Nat → Int32} {sd : Int64} {pe sum w : Int32} (ok : wdB u pe sum w = false) (hS : kS h x T L u C Ac K kf sd) (hd : 20 ≤ d) : kx_Fn mX4_weighed d 0 0 G [.ref x, .int pe, .int sum, .int w] N h (some (.int (-2)), N, h) := by
  refine kx_Fn_of rfl (Nat.le_of_ble_eq_true rfl) rfl ?_ (kx_self)
  obtain ⟨told, trial, F, B, s, f, hi, hf, hF, hC, hB, hL⟩ := id hS
  obtain ⟨s1, s2, s3, s4, s5, s6, s7, s8, s9, s10, s11⟩ := id hi
  refine ko_iload_n (i := 1) dX4_weighed_0 rfl rfl ?_
  refine ko_aload_n (i := 0) dX4_weighed_1 rfl rfl ?_
  refine ko_get fl_X4_19 dX4_weighed_2 s1 rfl ?_
  refine ko_callVr lk_X4_186 dX4_weighed_5 (fn_everyone (d := d - 1) s5) rfl rfl s5.1 rfl rfl (by omega) (by omega) (by omega) (Nat.le_of_ble_eq_true rfl) ?_
  refine ko_iconst (v := (-1)) dX4_weighed_8 (by decide) ?_
  refine ko_ixor dX4_weighed_9 ?_
  refine ko_iand dX4_weighed_10 ?_
  refine ko_st (st' := [.int (sbI _ _)]) rfl ?_
  refine ko_if_ne (tgt := 33) dX4_weighed_11 (by decide) (fun c_11 => ?_) (fun c_11 => ?_)
  · refine ko_bipush (v := (-2)) dX4_weighed_33 (by decide) ?_
    refine ko_iret dX4_weighed_35 rfl (Nat.le_of_ble_eq_true rfl) (Nat.le_of_ble_eq_true rfl) ?_
    rfl
  · refine ko_iload_n (i := 2) dX4_weighed_14 rfl rfl ?_
    refine ko_if_lt (tgt := 33) dX4_weighed_15 (by decide) (fun c_15 => ?_) (fun c_15 => ?_)
    · refine ko_bipush (v := (-2)) dX4_weighed_33 (by decide) ?_
      refine ko_iret dX4_weighed_35 rfl (Nat.le_of_ble_eq_true rfl) (Nat.le_of_ble_eq_true rfl) ?_
      rfl
    · refine ko_iload_n (i := 2) dX4_weighed_18 rfl rfl ?_
      refine ko_bipush (v := 45) dX4_weighed_19 (by decide) ?_
      refine ko_icmp_gt (tgt := 33) dX4_weighed_21 (by decide) (fun c_21 => ?_) (fun c_21 => ?_)
      · refine ko_bipush (v := (-2)) dX4_weighed_33 (by decide) ?_
        refine ko_iret dX4_weighed_35 rfl (Nat.le_of_ble_eq_true rfl) (Nat.le_of_ble_eq_true rfl) ?_
        rfl
      · refine ko_iload_n (i := 3) dX4_weighed_24 rfl rfl ?_
        refine ko_if_lt (tgt := 33) dX4_weighed_25 (by decide) (fun c_25 => ?_) (fun c_25 => ?_)
        · refine ko_bipush (v := (-2)) dX4_weighed_33 (by decide) ?_
          refine ko_iret dX4_weighed_35 rfl (Nat.le_of_ble_eq_true rfl) (Nat.le_of_ble_eq_true rfl) ?_
          rfl
        · refine ko_iload_n (i := 3) dX4_weighed_28 rfl rfl ?_
          refine ko_iconst (v := 2) dX4_weighed_29 (by decide) ?_
          refine ko_icmp_le (tgt := 36) dX4_weighed_30 (by decide) (fun c_30 => ?_) (fun c_30 => ?_)
          · exact absurd ok (by simp [wdB, c_11, c_15, c_21, c_25, c_30])
          · refine ko_bipush (v := (-2)) dX4_weighed_33 (by decide) ?_
            refine ko_iret dX4_weighed_35 rfl (Nat.le_of_ble_eq_true rfl) (Nat.le_of_ble_eq_true rfl) ?_
            rfl
set_option maxRecDepth 20000 in
theorem x_weighed1 {G : kx_G} {d N x : Nat} {h : kx_H} {T : Nat → Int32} {L : Nat} {u : PU} {C : Nat} {Ac K : Nat → PU} {kf : Nat → Int32} {sd : Int64} {n m : Nat} {sum w : Int32} (hS : kS h x T L u C Ac K kf sd) (hn : pN u = nI n) (hm : n ≤ 5) (hm2 : m < 32) (ok : wdB u (nI m) sum w = true) (hd : 20 ≤ d) : kx_Fn mX4_weighed d 0 0 G [.ref x, .int (nI m), .int sum, .int w] N h (some (.int (wdI m (wdS u n m sum (m + 1)) w)), N, h) := by
  refine kx_Fn_of rfl (Nat.le_of_ble_eq_true rfl) rfl ?_ (kx_self)
  obtain ⟨told, trial, F, B, s, f, hi, hf, hF, hC, hB, hL⟩ := id hS
  obtain ⟨s1, s2, s3, s4, s5, s6, s7, s8, s9, s10, s11⟩ := id hi
  have LOOP : ∀ (k i : Nat), k + i = (m + 1) → kx_Ok mX4_weighed d 0 0 G 0 0 48 [(0, .ref x), (1, .int (nI m)), (2, .int sum), (3, .int w), (4, .int (wdS u n m sum i).1), (5, .int (wdS u n m sum i).2.1), (6, .int (wdS u n m sum i).2.2), (7, .int (nI i))] [] N h (some (.int (wdI m (wdS u n m sum (m + 1)) w)), N, h) := by
    intro k
    induction k with
    | zero =>
      intro i hi
      obtain rfl : i = (m + 1) := by omega
      refine ko_iload (i := 7) dX4_weighed_48 rfl ?_
      refine ko_iload_n (i := 1) dX4_weighed_50 rfl rfl ?_
      refine ko_icmp_gt (tgt := 97) dX4_weighed_51 (by decide) (fun c_51 => ?_) (fun c_51 => ?_)
      · refine ko_iload_n (i := 3) dX4_weighed_97 rfl rfl ?_
        refine ko_if_ne (tgt := 104) dX4_weighed_98 (by decide) (fun c_98 => ?_) (fun c_98 => ?_)
        · refine ko_iload (i := 4) dX4_weighed_104 rfl ?_
          refine ko_if_ne (tgt := 112) dX4_weighed_106 (by decide) (fun c_106 => ?_) (fun c_106 => ?_)
          · refine ko_iload_n (i := 3) dX4_weighed_112 rfl rfl ?_
            refine ko_iconst (v := 1) dX4_weighed_113 (by decide) ?_
            refine ko_icmp_ne (tgt := 122) dX4_weighed_114 (by decide) (fun c_114 => ?_) (fun c_114 => ?_)
            · refine ko_iload_n (i := 1) dX4_weighed_122 rfl rfl ?_
              refine ko_iload (i := 6) dX4_weighed_123 rfl ?_
              refine ko_iconst (v := (-1)) dX4_weighed_125 (by decide) ?_
              refine ko_ixor dX4_weighed_126 ?_
              refine ko_iand dX4_weighed_127 ?_
              refine ko_iret dX4_weighed_128 rfl (Nat.le_of_ble_eq_true rfl) (Nat.le_of_ble_eq_true rfl) ?_
              simp [wdI, c_51, c_98, c_106, c_114]
            · refine ko_iload (i := 5) dX4_weighed_117 rfl ?_
              refine ko_goto (tgt := 128) dX4_weighed_119 (by decide) ?_
              refine ko_iret dX4_weighed_128 rfl (Nat.le_of_ble_eq_true rfl) (Nat.le_of_ble_eq_true rfl) ?_
              simp [wdI, c_51, c_98, c_106, c_114]
          · refine ko_bipush (v := (-9)) dX4_weighed_109 (by decide) ?_
            refine ko_iret dX4_weighed_111 rfl (Nat.le_of_ble_eq_true rfl) (Nat.le_of_ble_eq_true rfl) ?_
            simp [wdI, c_51, c_98, c_106]
        · refine ko_iload (i := 4) dX4_weighed_101 rfl ?_
          refine ko_iret dX4_weighed_103 rfl (Nat.le_of_ble_eq_true rfl) (Nat.le_of_ble_eq_true rfl) ?_
          simp [wdI, c_51, c_98]
      · exact absurd (show nI m < nI (m + 1) from nI_lt (by omega) (by omega)) c_51
    | succ k ih =>
      intro i hi
      refine ko_iload (i := 7) dX4_weighed_48 rfl ?_
      refine ko_iload_n (i := 1) dX4_weighed_50 rfl rfl ?_
      refine ko_icmp_gt (tgt := 97) dX4_weighed_51 (by decide) (fun c_51 => ?_) (fun c_51 => ?_)
      · exact absurd (show nI m < nI i from c_51) (nI_nlt (by omega) (by omega))
      · refine ko_iload (i := 7) dX4_weighed_54 rfl ?_
        refine ko_iload_n (i := 1) dX4_weighed_56 rfl rfl ?_
        refine ko_iconst (v := (-1)) dX4_weighed_57 (by decide) ?_
        refine ko_ixor dX4_weighed_58 ?_
        refine ko_iand dX4_weighed_59 ?_
        refine ko_st (st' := [.int (sbI _ _)]) rfl ?_
        refine ko_if_ne (tgt := 91) dX4_weighed_60 (by decide) (fun c_60 => ?_) (fun c_60 => ?_)
        · refine ko_inc1 (i := 7) (lv' := [(0, _), (1, _), (2, _), (3, _), (4, _), (5, _), (6, _), (7, _)]) dX4_weighed_91 rfl (by decide) rfl rfl rfl ?_
          refine ko_goto (tgt := 48) dX4_weighed_94 (by decide) ?_
          exact ko_lv (by simp [wdS, nI_succ, c_51, c_60]) (ih (i + 1) (by omega))
        · refine ko_aload_n (i := 0) dX4_weighed_63 rfl rfl ?_
          refine ko_iload_n (i := 1) dX4_weighed_64 rfl rfl ?_
          refine ko_iload (i := 7) dX4_weighed_65 rfl ?_
          refine ko_callVr lk_X4_189 dX4_weighed_67 (x_weight (d := d - 1) hS hn hm (by omega)) rfl rfl s1 rfl rfl (by omega) (by omega) (by omega) (Nat.le_of_ble_eq_true rfl) ?_
          refine ko_iload_n (i := 2) dX4_weighed_70 rfl rfl ?_
          refine ko_icmp_ne (tgt := 91) dX4_weighed_71 (by decide) (fun c_71 => ?_) (fun c_71 => ?_)
          · refine ko_inc1 (i := 7) (lv' := [(0, _), (1, _), (2, _), (3, _), (4, _), (5, _), (6, _), (7, _)]) dX4_weighed_91 rfl (by decide) rfl rfl rfl ?_
            refine ko_goto (tgt := 48) dX4_weighed_94 (by decide) ?_
            exact ko_lv (by simp [wdS, nI_succ, c_51, c_60, c_71]) (ih (i + 1) (by omega))
          · refine ko_inc1 (i := 4) (lv' := [(0, _), (1, _), (2, _), (3, _), (4, _), (5, _), (6, _), (7, _)]) dX4_weighed_74 rfl (by decide) rfl rfl rfl ?_
            refine ko_iload (i := 5) dX4_weighed_77 rfl ?_
            refine ko_iload (i := 7) dX4_weighed_79 rfl ?_
            refine ko_iand dX4_weighed_81 ?_
            refine ko_istore (i := 5) (lv' := [(0, _), (1, _), (2, _), (3, _), (4, _), (5, _), (6, _), (7, _)]) dX4_weighed_82 (by decide) rfl rfl rfl ?_
            refine ko_iload (i := 6) dX4_weighed_84 rfl ?_
            refine ko_iload (i := 7) dX4_weighed_86 rfl ?_
            refine ko_ior dX4_weighed_88 ?_
            refine ko_istore (i := 6) (lv' := [(0, _), (1, _), (2, _), (3, _), (4, _), (5, _), (6, _), (7, _)]) dX4_weighed_89 (by decide) rfl rfl rfl ?_
            refine ko_inc1 (i := 7) (lv' := [(0, _), (1, _), (2, _), (3, _), (4, _), (5, _), (6, _), (7, _)]) dX4_weighed_91 rfl (by decide) rfl rfl rfl ?_
            refine ko_goto (tgt := 48) dX4_weighed_94 (by decide) ?_
            exact ko_lv (by simp [wdS, nI_succ, c_51, c_60, c_71]) (ih (i + 1) (by omega))
  refine ko_iload_n (i := 1) dX4_weighed_0 rfl rfl ?_
  refine ko_aload_n (i := 0) dX4_weighed_1 rfl rfl ?_
  refine ko_get fl_X4_19 dX4_weighed_2 s1 rfl ?_
  refine ko_callVr lk_X4_186 dX4_weighed_5 (fn_everyone (d := d - 1) s5) rfl rfl s5.1 rfl rfl (by omega) (by omega) (by omega) (Nat.le_of_ble_eq_true rfl) ?_
  refine ko_iconst (v := (-1)) dX4_weighed_8 (by decide) ?_
  refine ko_ixor dX4_weighed_9 ?_
  refine ko_iand dX4_weighed_10 ?_
  refine ko_st (st' := [.int (sbI _ _)]) rfl ?_
  refine ko_if_ne (tgt := 33) dX4_weighed_11 (by decide) (fun c_11 => ?_) (fun c_11 => ?_)
  · exact absurd ok (by simp [wdB, c_11])
  · refine ko_iload_n (i := 2) dX4_weighed_14 rfl rfl ?_
    refine ko_if_lt (tgt := 33) dX4_weighed_15 (by decide) (fun c_15 => ?_) (fun c_15 => ?_)
    · exact absurd ok (by simp [wdB, c_11, c_15])
    · refine ko_iload_n (i := 2) dX4_weighed_18 rfl rfl ?_
      refine ko_bipush (v := 45) dX4_weighed_19 (by decide) ?_
      refine ko_icmp_gt (tgt := 33) dX4_weighed_21 (by decide) (fun c_21 => ?_) (fun c_21 => ?_)
      · exact absurd ok (by simp [wdB, c_11, c_15, c_21])
      · refine ko_iload_n (i := 3) dX4_weighed_24 rfl rfl ?_
        refine ko_if_lt (tgt := 33) dX4_weighed_25 (by decide) (fun c_25 => ?_) (fun c_25 => ?_)
        · exact absurd ok (by simp [wdB, c_11, c_15, c_21, c_25])
        · refine ko_iload_n (i := 3) dX4_weighed_28 rfl rfl ?_
          refine ko_iconst (v := 2) dX4_weighed_29 (by decide) ?_
          refine ko_icmp_le (tgt := 36) dX4_weighed_30 (by decide) (fun c_30 => ?_) (fun c_30 => ?_)
          · refine ko_iconst (v := 0) dX4_weighed_36 (by decide) ?_
            refine ko_istore (i := 4) (lv' := [(0, _), (1, _), (2, _), (3, _), (4, _)]) dX4_weighed_37 (by decide) rfl rfl rfl ?_
            refine ko_iload_n (i := 1) dX4_weighed_39 rfl rfl ?_
            refine ko_istore (i := 5) (lv' := [(0, _), (1, _), (2, _), (3, _), (4, _), (5, _)]) dX4_weighed_40 (by decide) rfl rfl rfl ?_
            refine ko_iconst (v := 0) dX4_weighed_42 (by decide) ?_
            refine ko_istore (i := 6) (lv' := [(0, _), (1, _), (2, _), (3, _), (4, _), (5, _), (6, _)]) dX4_weighed_43 (by decide) rfl rfl rfl ?_
            refine ko_iconst (v := 0) dX4_weighed_45 (by decide) ?_
            refine ko_istore (i := 7) (lv' := [(0, _), (1, _), (2, _), (3, _), (4, _), (5, _), (6, _), (7, _)]) dX4_weighed_46 (by decide) rfl rfl rfl ?_
            exact LOOP (m + 1) 0 (by omega)
          · exact absurd ok (by simp [wdB, c_11, c_15, c_21, c_25, c_30])
set_option maxRecDepth 20000 in
theorem fn_gain {G : kx_G} {d N x : Nat} {h : kx_H} {u : PU} {sd : Int64} {s : SU} {S1 S2 : SU} {p ah : Int32} (g1 : h x = some (kxo x sd)) (g2 : kP h (x + 9) u) (g3 : h (x + 121) = some (kso s)) (e1 : seU u (pOp u) ah = S1) (e2 : seU u (pOp u) (ah ||| 1 <<< (p &&& 31)) = S2) (hd : 12 ≤ d) : kx_Fn mX4_gain d 0 0 G [.ref x, .int p, .int ah] N h (some (.int (S2.2.1 - S1.2.1)), N, kx_up h (x + 121) (kso S2)) := by
  refine kx_Fn_of rfl (Nat.le_of_ble_eq_true rfl) rfl ?_ (ku_dom g3)
  refine ko_aload_n (i := 0) dX4_gain_0 rfl rfl ?_
  refine ko_get fl_X4_44 dX4_gain_1 g1 rfl ?_
  refine ko_aload_n (i := 0) dX4_gain_4 rfl rfl ?_
  refine ko_get fl_X4_19 dX4_gain_5 g1 rfl ?_
  refine ko_aload_n (i := 0) dX4_gain_8 rfl rfl ?_
  refine ko_get fl_X4_19 dX4_gain_9 g1 rfl ?_
  refine ko_get fl_X4_77 dX4_gain_12 g2.1 rfl ?_
  refine ko_iload_n (i := 2) dX4_gain_15 rfl rfl ?_
  refine ko_callVr lk_X4_155 dX4_gain_16 (fn_searchS (d := d - 1) g2 g3 (by omega) (by omega) e1) rfl rfl g3 rfl rfl (by omega) (by omega) (by omega) (Nat.le_of_ble_eq_true rfl) ?_
  refine ko_istore_n (i := 3) (lv' := [(0, _), (1, _), (2, _), (3, _)]) dX4_gain_19 rfl (by decide) rfl rfl rfl ?_
  refine ko_aload_n (i := 0) dX4_gain_20 rfl rfl ?_
  refine ko_get fl_X4_44 dX4_gain_21 ((ku_n (by omega)).trans g1) rfl ?_
  refine ko_aload_n (i := 0) dX4_gain_24 rfl rfl ?_
  refine ko_get fl_X4_19 dX4_gain_25 ((ku_n (by omega)).trans g1) rfl ?_
  refine ko_aload_n (i := 0) dX4_gain_28 rfl rfl ?_
  refine ko_get fl_X4_19 dX4_gain_29 ((ku_n (by omega)).trans g1) rfl ?_
  refine ko_get fl_X4_77 dX4_gain_32 (kP_up g2 (by omega)).1 rfl ?_
  refine ko_iload_n (i := 2) dX4_gain_35 rfl rfl ?_
  refine ko_iconst (v := 1) dX4_gain_36 (by decide) ?_
  refine ko_iload_n (i := 1) dX4_gain_37 rfl rfl ?_
  refine ko_ishl dX4_gain_38 ?_
  refine ko_ior dX4_gain_39 ?_
  refine ko_callVr lk_X4_155 dX4_gain_40 (fn_searchS (d := d - 1) (kP_up g2 (by omega)) ku_s (by omega) (by omega) e2) rfl rfl ku_s rfl rfl (by omega) (by omega) (by omega) (Nat.le_of_ble_eq_true rfl) ?_
  rw [ku_ku]
  refine ko_iload_n (i := 3) dX4_gain_43 rfl rfl ?_
  refine ko_isub dX4_gain_44 ?_
  refine ko_iret dX4_gain_45 rfl (Nat.le_of_ble_eq_true rfl) (Nat.le_of_ble_eq_true rfl) ?_
  rfl
set_option maxRecDepth 20000 in
theorem fn_allServed {G : kx_G} {d N x : Nat} {h : kx_H} {u : PU} {sd : Int64} {s : SU} {S1 : SU} {op : Int32} (g1 : h x = some (kxo x sd)) (g2 : kP h (x + 9) u) (g3 : h (x + 121) = some (kso s)) (e1 : seU u op (evI (pN u) &&& (op ^^^ (-1))) = S1) (hd : 12 ≤ d) : kx_Fn mX4_allServed d 0 0 G [.ref x, .int op] N h (some (.int (kb (decide (S1.2.1 = bcI op)))), N, kx_up h (x + 121) (kso S1)) := by
  refine kx_Fn_of rfl (Nat.le_of_ble_eq_true rfl) rfl ?_ (ku_dom g3)
  refine ko_aload_n (i := 0) dX4_allServed_0 rfl rfl ?_
  refine ko_get fl_X4_44 dX4_allServed_1 g1 rfl ?_
  refine ko_aload_n (i := 0) dX4_allServed_4 rfl rfl ?_
  refine ko_get fl_X4_19 dX4_allServed_5 g1 rfl ?_
  refine ko_iload_n (i := 1) dX4_allServed_8 rfl rfl ?_
  refine ko_aload_n (i := 0) dX4_allServed_9 rfl rfl ?_
  refine ko_get fl_X4_19 dX4_allServed_10 g1 rfl ?_
  refine ko_callVr lk_X4_186 dX4_allServed_13 (fn_everyone (d := d - 1) g2) rfl rfl g2.1 rfl rfl (by omega) (by omega) (by omega) (Nat.le_of_ble_eq_true rfl) ?_
  refine ko_iload_n (i := 1) dX4_allServed_16 rfl rfl ?_
  refine ko_iconst (v := (-1)) dX4_allServed_17 (by decide) ?_
  refine ko_ixor dX4_allServed_18 ?_
  refine ko_iand dX4_allServed_19 ?_
  refine ko_callVr lk_X4_155 dX4_allServed_20 (fn_searchS (d := d - 1) g2 g3 (by omega) (by omega) e1) rfl rfl g3 rfl rfl (by omega) (by omega) (by omega) (Nat.le_of_ble_eq_true rfl) ?_
  refine ko_iload_n (i := 1) dX4_allServed_23 rfl rfl ?_
  refine ko_callSr lk_X4_127 dX4_allServed_24 (fn_bitCount (d := d - 1)) rfl rfl (by omega) (by omega) (by omega) (Nat.le_of_ble_eq_true rfl) ?_
  refine ko_icmp_ne (tgt := 34) dX4_allServed_27 (by decide) (fun c_27 => ?_) (fun c_27 => ?_)
  · refine ko_iconst (v := 0) dX4_allServed_34 (by decide) ?_
    refine ko_zret dX4_allServed_35 rfl rfl (Nat.le_of_ble_eq_true rfl) (Nat.le_of_ble_eq_true rfl) ?_
    simp [kb, c_27]
  · refine ko_iconst (v := 1) dX4_allServed_30 (by decide) ?_
    refine ko_goto (tgt := 35) dX4_allServed_31 (by decide) ?_
    refine ko_zret dX4_allServed_35 rfl rfl (Nat.le_of_ble_eq_true rfl) (Nat.le_of_ble_eq_true rfl) ?_
    simp [kb, c_27]
def shA (Q : Int32 → SU) (p : Int32) (m : Nat) : Nat → Int32
  | 0 => 0
  | i + 1 => if ¬ sbI (nI i) (nI m) = 0 then shA Q p m i else shA Q p m i + faI (bcI (nI i)) * faI (bcI (nI m) + 1 - 1 - bcI (nI i)) * ((Q (nI i ||| 1 <<< (p &&& 31))).2.1 - (Q (nI i)).2.1)
def shS (Q : Int32 → SU) (p : Int32) (m : Nat) (s : SU) : Nat → SU
  | 0 => s
  | i + 1 => if ¬ sbI (nI i) (nI m) = 0 then shS Q p m s i else Q (nI i ||| 1 <<< (p &&& 31))
set_option maxRecDepth 20000 in
theorem x_share0 {G : kx_G} {d N x : Nat} {h : kx_H} {T : Nat → Int32} {L : Nat} {u : PU} {C : Nat} {Ac K : Nat → PU} {kf : Nat → Int32} {sd : Int64} {p : Int32} {up : Bool} (ok : hasI (pN u) p = false) (hS : kS h x T L u C Ac K kf sd) (hd : 20 ≤ d) : kx_Fn mX4_share d 0 0 G [.ref x, .int p, .int (kb up)] N h (some (.int (-1)), N, h) := by
  refine kx_Fn_of rfl (Nat.le_of_ble_eq_true rfl) rfl ?_ (kx_self)
  obtain ⟨told, trial, F, B, s, f, hi, hf, hF, hC, hB, hL⟩ := id hS
  obtain ⟨s1, s2, s3, s4, s5, s6, s7, s8, s9, s10, s11⟩ := id hi
  refine ko_aload_n (i := 0) dX4_share_0 rfl rfl ?_
  refine ko_get fl_X4_19 dX4_share_1 s1 rfl ?_
  refine ko_iload_n (i := 1) dX4_share_4 rfl rfl ?_
  refine ko_callVr lk_X4_90 dX4_share_5 (fn_has (d := d - 1) s5) rfl rfl s5.1 rfl rfl (by omega) (by omega) (by omega) (Nat.le_of_ble_eq_true rfl) ?_
  first | refine ko_ifb_ne (tgt := 13) dX4_share_8 (by decide) (fun c_8 => ?_) (fun c_8 => ?_) | refine ko_if_ne (tgt := 13) dX4_share_8 (by decide) (fun c_8 => ?_) (fun c_8 => ?_)
  · exact absurd ok (by simp [c_8])
  · refine ko_iconst (v := (-1)) dX4_share_11 (by decide) ?_
    refine ko_iret dX4_share_12 rfl (Nat.le_of_ble_eq_true rfl) (Nat.le_of_ble_eq_true rfl) ?_
    rfl
set_option maxRecDepth 20000 in
theorem x_share1 {G : kx_G} {d N x : Nat} {h : kx_H} {T : Nat → Int32} {L : Nat} {u : PU} {C : Nat} {Ac K : Nat → PU} {kf : Nat → Int32} {sd : Int64} {p : Int32} {up : Bool} (ok : hasI (pN u) p = true) (op : hbI (pOp u) p = true) (hS : kS h x T L u C Ac K kf sd) (hd : 20 ≤ d) : kx_Fn mX4_share d 0 0 G [.ref x, .int p, .int (kb up)] N h (some (.int (frI 0 1 up)), N, h) := by
  refine kx_Fn_of rfl (Nat.le_of_ble_eq_true rfl) rfl ?_ (kx_self)
  obtain ⟨told, trial, F, B, s, f, hi, hf, hF, hC, hB, hL⟩ := id hS
  obtain ⟨s1, s2, s3, s4, s5, s6, s7, s8, s9, s10, s11⟩ := id hi
  refine ko_aload_n (i := 0) dX4_share_0 rfl rfl ?_
  refine ko_get fl_X4_19 dX4_share_1 s1 rfl ?_
  refine ko_iload_n (i := 1) dX4_share_4 rfl rfl ?_
  refine ko_callVr lk_X4_90 dX4_share_5 (fn_has (d := d - 1) s5) rfl rfl s5.1 rfl rfl (by omega) (by omega) (by omega) (Nat.le_of_ble_eq_true rfl) ?_
  first | refine ko_ifb_ne (tgt := 13) dX4_share_8 (by decide) (fun c_8 => ?_) (fun c_8 => ?_) | refine ko_if_ne (tgt := 13) dX4_share_8 (by decide) (fun c_8 => ?_) (fun c_8 => ?_)
  · refine ko_aload_n (i := 0) dX4_share_13 rfl rfl ?_
    refine ko_get fl_X4_19 dX4_share_14 s1 rfl ?_
    refine ko_iload_n (i := 1) dX4_share_17 rfl rfl ?_
    refine ko_callVr lk_X4_117 dX4_share_18 (fn_isOpen (d := d - 1) s5 (by omega)) rfl rfl s5.1 rfl rfl (by omega) (by omega) (by omega) (Nat.le_of_ble_eq_true rfl) ?_
    first | refine ko_ifb_eq (tgt := 31) dX4_share_21 (by decide) (fun c_21 => ?_) (fun c_21 => ?_) | refine ko_if_eq (tgt := 31) dX4_share_21 (by decide) (fun c_21 => ?_) (fun c_21 => ?_)
    · exact absurd op (by simp [c_8, c_21])
    · refine ko_iconst (v := 0) dX4_share_24 (by decide) ?_
      refine ko_iconst (v := 1) dX4_share_25 (by decide) ?_
      refine ko_iload_n (i := 2) dX4_share_26 rfl rfl ?_
      refine ko_callSr lk_X4_176 dX4_share_27 (fn_fraction (d := d - 1)) rfl rfl (by omega) (by omega) (by omega) (Nat.le_of_ble_eq_true rfl) ?_
      refine ko_iret dX4_share_30 rfl (Nat.le_of_ble_eq_true rfl) (Nat.le_of_ble_eq_true rfl) ?_
      rfl
  · exact absurd ok (by simp [c_8])
set_option maxRecDepth 20000 in
theorem x_share2 {G : kx_G} {d N x : Nat} {h : kx_H} {T : Nat → Int32} {L : Nat} {u : PU} {C : Nat} {Ac K : Nat → PU} {kf : Nat → Int32} {sd : Int64} {m : Nat} {p : Int32} {up : Bool} {Q : Int32 → SU} (ok : hasI (pN u) p = true) (op : hbI (pOp u) p = false) (hQ : ∀ fr, seU u (pOp u) fr = Q fr) (hm3 : unbI u &&& (1 <<< (p &&& 31) ^^^ (-1)) = nI m) (hm : m < 32) (hG : G.2 G.1 = some (6, fcF)) (hS : kS h x T L u C Ac K kf sd) (hd : 20 ≤ d) : ∃ g, kx_Fn mX4_share d 0 0 G [.ref x, .int p, .int (kb up)] N h (some (.int (frI (shA Q p m (m + 1)) (faI (bcI (nI m) + 1)) up)), N, g) ∧ kS g x T L u C Ac K kf sd ∧ kFr h g x 121 := by
  obtain ⟨told, trial, F, B, s, f, hi, hf, hF, hC, hB, hL⟩ := id hS
  obtain ⟨s1, s2, s3, s4, s5, s6, s7, s8, s9, s10, s11⟩ := id hi
  have fr : kFr h (kx_up h (x + 121) (kso (shS Q p m s (m + 1)))) x 121 := kFr.up (by omega)
  refine ⟨_, kx_Fn_of rfl (Nat.le_of_ble_eq_true rfl) rfl ?_ (kS_dom hS fr), ⟨told, trial, F, B, _, f, kSi_serv hi _, hf, hF, hC, hB, hL⟩, fr⟩
  · have LOOP : ∀ (k i : Nat), k + i = (m + 1) → kx_Ok mX4_share d 0 0 G 0 0 59 [(0, .ref x), (1, .int p), (2, .int (kb up)), (3, .int (nI m)), (4, .int (bcI (nI m) + 1)), (5, .int (shA Q p m i)), (6, .int (nI i))] [] N (kx_up h (x + 121) (kso (shS Q p m s i))) (some (.int (frI (shA Q p m (m + 1)) (faI (bcI (nI m) + 1)) up)), N, kx_up h (x + 121) (kso (shS Q p m s (m + 1)))) := by
      intro k
      induction k with
      | zero =>
        intro i hi
        obtain rfl : i = (m + 1) := by omega
        refine ko_iload (i := 6) dX4_share_59 rfl ?_
        refine ko_iload_n (i := 3) dX4_share_61 rfl rfl ?_
        refine ko_icmp_gt (tgt := 120) dX4_share_62 (by decide) (fun c_62 => ?_) (fun c_62 => ?_)
        · refine ko_iload (i := 5) dX4_share_120 rfl ?_
          refine ko_iload (i := 4) dX4_share_122 rfl ?_
          refine ko_callSr lk_X4_180 dX4_share_124 (fn_factorial (d := d - 1) hG) rfl rfl (by omega) (by omega) (by omega) (Nat.le_of_ble_eq_true rfl) ?_
          refine ko_iload_n (i := 2) dX4_share_127 rfl rfl ?_
          refine ko_callSr lk_X4_176 dX4_share_128 (fn_fraction (d := d - 1)) rfl rfl (by omega) (by omega) (by omega) (Nat.le_of_ble_eq_true rfl) ?_
          refine ko_iret dX4_share_131 rfl (Nat.le_of_ble_eq_true rfl) (Nat.le_of_ble_eq_true rfl) ?_
          rfl
        · exact absurd (show nI m < nI (m + 1) from nI_lt (by omega) (by omega)) c_62
      | succ k ih =>
        intro i hi
        refine ko_iload (i := 6) dX4_share_59 rfl ?_
        refine ko_iload_n (i := 3) dX4_share_61 rfl rfl ?_
        refine ko_icmp_gt (tgt := 120) dX4_share_62 (by decide) (fun c_62 => ?_) (fun c_62 => ?_)
        · exact absurd (show nI m < nI i from c_62) (nI_nlt (by omega) (by omega))
        · refine ko_iload (i := 6) dX4_share_65 rfl ?_
          refine ko_iload_n (i := 3) dX4_share_67 rfl rfl ?_
          refine ko_iconst (v := (-1)) dX4_share_68 (by decide) ?_
          refine ko_ixor dX4_share_69 ?_
          refine ko_iand dX4_share_70 ?_
          refine ko_st (st' := [.int (sbI _ _)]) rfl ?_
          refine ko_if_ne (tgt := 114) dX4_share_71 (by decide) (fun c_71 => ?_) (fun c_71 => ?_)
          · refine ko_inc1 (i := 6) (lv' := [(0, _), (1, _), (2, _), (3, _), (4, _), (5, _), (6, _)]) dX4_share_114 rfl (by decide) rfl rfl rfl ?_
            refine ko_goto (tgt := 59) dX4_share_117 (by decide) ?_
            refine ko_keep [0, 1, 2, 3, 4, 5, 6] (lv' := [(0, _), (1, _), (2, _), (3, _), (4, _), (5, _), (6, .int (nI i + 1))]) rfl ?_
            have ei := ih (i + 1) (by omega)
            first
              | (simp only [shA, shS, c_62, c_71, not_true_eq_false, not_false_eq_true, if_true, if_false, nI_succ] at ei; exact ei)
              | (have hc : ¬ ¬ sbI (nI i) (nI m) = 0 := fun z => z c_71
                 rw [shA, shS, if_neg hc, if_neg hc, nI_succ] at ei; exact ei)
              | (rw [shA, shS, if_pos c_71, if_pos c_71, nI_succ] at ei; exact ei)
          · refine ko_iload (i := 6) dX4_share_74 rfl ?_
            refine ko_callSr lk_X4_127 dX4_share_76 (fn_bitCount (d := d - 1)) rfl rfl (by omega) (by omega) (by omega) (Nat.le_of_ble_eq_true rfl) ?_
            refine ko_istore (i := 7) (lv' := [(0, _), (1, _), (2, _), (3, _), (4, _), (5, _), (6, _), (7, _)]) dX4_share_79 (by decide) rfl rfl rfl ?_
            refine ko_iload (i := 7) dX4_share_81 rfl ?_
            refine ko_callSr lk_X4_180 dX4_share_83 (fn_factorial (d := d - 1) hG) rfl rfl (by omega) (by omega) (by omega) (Nat.le_of_ble_eq_true rfl) ?_
            refine ko_iload (i := 4) dX4_share_86 rfl ?_
            refine ko_iconst (v := 1) dX4_share_88 (by decide) ?_
            refine ko_isub dX4_share_89 ?_
            refine ko_iload (i := 7) dX4_share_90 rfl ?_
            refine ko_isub dX4_share_92 ?_
            refine ko_callSr lk_X4_180 dX4_share_93 (fn_factorial (d := d - 1) hG) rfl rfl (by omega) (by omega) (by omega) (Nat.le_of_ble_eq_true rfl) ?_
            refine ko_imul dX4_share_96 ?_
            refine ko_istore (i := 8) (lv' := [(0, _), (1, _), (2, _), (3, _), (4, _), (5, _), (6, _), (7, _), (8, _)]) dX4_share_97 (by decide) rfl rfl rfl ?_
            refine ko_iload (i := 5) dX4_share_99 rfl ?_
            refine ko_iload (i := 8) dX4_share_101 rfl ?_
            refine ko_aload_n (i := 0) dX4_share_103 rfl rfl ?_
            refine ko_iload_n (i := 1) dX4_share_104 rfl rfl ?_
            refine ko_iload (i := 6) dX4_share_105 rfl ?_
            refine ko_callVr lk_X4_183 dX4_share_107 (fn_gain (d := d - 1) ((ku_n (by omega)).trans s1) (kP_up s5 (by omega)) ku_s (hQ _) (hQ _) (by omega)) rfl rfl ((ku_n (by omega)).trans s1) rfl rfl (by omega) (by omega) (by omega) (Nat.le_of_ble_eq_true rfl) ?_
            rw [ku_ku]
            refine ko_imul dX4_share_110 ?_
            refine ko_iadd dX4_share_111 ?_
            refine ko_istore (i := 5) (lv' := [(0, _), (1, _), (2, _), (3, _), (4, _), (5, _), (6, _), (7, _), (8, _)]) dX4_share_112 (by decide) rfl rfl rfl ?_
            refine ko_inc1 (i := 6) (lv' := [(0, _), (1, _), (2, _), (3, _), (4, _), (5, _), (6, _), (7, _), (8, _)]) dX4_share_114 rfl (by decide) rfl rfl rfl ?_
            refine ko_goto (tgt := 59) dX4_share_117 (by decide) ?_
            refine ko_keep [0, 1, 2, 3, 4, 5, 6] (lv' := [(0, _), (1, _), (2, _), (3, _), (4, _), (5, _), (6, .int (nI i + 1))]) rfl ?_
            have ei := ih (i + 1) (by omega)
            first
              | (simp only [shA, shS, c_62, c_71, not_true_eq_false, not_false_eq_true, if_true, if_false, nI_succ] at ei; exact ei)
              | (have hc : ¬ ¬ sbI (nI i) (nI m) = 0 := fun z => z c_71
                 rw [shA, shS, if_neg hc, if_neg hc, nI_succ] at ei; exact ei)
              | (rw [shA, shS, if_pos c_71, if_pos c_71, nI_succ] at ei; exact ei)
    refine ko_aload_n (i := 0) dX4_share_0 rfl rfl ?_
    refine ko_get fl_X4_19 dX4_share_1 s1 rfl ?_
    refine ko_iload_n (i := 1) dX4_share_4 rfl rfl ?_
    refine ko_callVr lk_X4_90 dX4_share_5 (fn_has (d := d - 1) s5) rfl rfl s5.1 rfl rfl (by omega) (by omega) (by omega) (Nat.le_of_ble_eq_true rfl) ?_
    first | refine ko_ifb_ne (tgt := 13) dX4_share_8 (by decide) (fun c_8 => ?_) (fun c_8 => ?_) | refine ko_if_ne (tgt := 13) dX4_share_8 (by decide) (fun c_8 => ?_) (fun c_8 => ?_)
    · refine ko_aload_n (i := 0) dX4_share_13 rfl rfl ?_
      refine ko_get fl_X4_19 dX4_share_14 s1 rfl ?_
      refine ko_iload_n (i := 1) dX4_share_17 rfl rfl ?_
      refine ko_callVr lk_X4_117 dX4_share_18 (fn_isOpen (d := d - 1) s5 (by omega)) rfl rfl s5.1 rfl rfl (by omega) (by omega) (by omega) (Nat.le_of_ble_eq_true rfl) ?_
      first | refine ko_ifb_eq (tgt := 31) dX4_share_21 (by decide) (fun c_21 => ?_) (fun c_21 => ?_) | refine ko_if_eq (tgt := 31) dX4_share_21 (by decide) (fun c_21 => ?_) (fun c_21 => ?_)
      · refine ko_aload_n (i := 0) dX4_share_31 rfl rfl ?_
        refine ko_get fl_X4_19 dX4_share_32 s1 rfl ?_
        refine ko_callVr lk_X4_152 dX4_share_35 (fn_unbereaved (d := d - 1) s5 (by omega)) rfl rfl s5.1 rfl rfl (by omega) (by omega) (by omega) (Nat.le_of_ble_eq_true rfl) ?_
        refine ko_iconst (v := 1) dX4_share_38 (by decide) ?_
        refine ko_iload_n (i := 1) dX4_share_39 rfl rfl ?_
        refine ko_ishl dX4_share_40 ?_
        refine ko_iconst (v := (-1)) dX4_share_41 (by decide) ?_
        refine ko_ixor dX4_share_42 ?_
        refine ko_iand dX4_share_43 ?_
        rw [hm3]
        refine ko_istore_n (i := 3) (lv' := [(0, _), (1, _), (2, _), (3, _)]) dX4_share_44 rfl (by decide) rfl rfl rfl ?_
        refine ko_iload_n (i := 3) dX4_share_45 rfl rfl ?_
        refine ko_callSr lk_X4_127 dX4_share_46 (fn_bitCount (d := d - 1)) rfl rfl (by omega) (by omega) (by omega) (Nat.le_of_ble_eq_true rfl) ?_
        refine ko_iconst (v := 1) dX4_share_49 (by decide) ?_
        refine ko_iadd dX4_share_50 ?_
        refine ko_istore (i := 4) (lv' := [(0, _), (1, _), (2, _), (3, _), (4, _)]) dX4_share_51 (by decide) rfl rfl rfl ?_
        refine ko_iconst (v := 0) dX4_share_53 (by decide) ?_
        refine ko_istore (i := 5) (lv' := [(0, _), (1, _), (2, _), (3, _), (4, _), (5, _)]) dX4_share_54 (by decide) rfl rfl rfl ?_
        refine ko_iconst (v := 0) dX4_share_56 (by decide) ?_
        refine ko_istore (i := 6) (lv' := [(0, _), (1, _), (2, _), (3, _), (4, _), (5, _), (6, _)]) dX4_share_57 (by decide) rfl rfl rfl ?_
        exact ko_h (ku_same s11).symm (LOOP (m + 1) 0 (by omega))
      · exact absurd op (by simp [c_8, c_21])
    · exact absurd ok (by simp [c_8])
def pcN (i : Nat) : Nat := i % 2 + i / 2 % 2 + i / 4 % 2 + i / 8 % 2 + i / 16 % 2
theorem bc_pc : ∀ i, i < 32 → bcI (nI i) = nI (pcN i) := by decide +kernel
theorem pc_le : ∀ i, i < 32 → ∀ m, m < 32 → sbI (nI i) (nI m) = 0 → pcN i ≤ pcN m := by decide +kernel
theorem pc_5 : ∀ i, i < 32 → pcN i ≤ 5 := by decide +kernel
def chA (Q : Int32 → SU) (op y : Int32) (m : Nat) : Nat → Int32
  | 0 => 0
  | i + 1 => if ¬ sbI (nI i) (nI m) = 0 then chA Q op y m i else if decide ((Q (op ||| nI i)).2.1 = bcI (op ||| nI i)) = false then chA Q op y m i else chA Q op y m i + poI y (pcN i) * poI (10 - y) (pcN m - pcN i)
def chS (Q : Int32 → SU) (op : Int32) (m : Nat) (s : SU) : Nat → SU
  | 0 => s
  | i + 1 => if ¬ sbI (nI i) (nI m) = 0 then chS Q op m s i else Q (op ||| nI i)
set_option maxRecDepth 20000 in
theorem x_chance0 {G : kx_G} {d N x : Nat} {h : kx_H} {T : Nat → Int32} {L : Nat} {u : PU} {C : Nat} {Ac K : Nat → PU} {kf : Nat → Int32} {sd : Int64} {y : Int32} {up : Bool} (ok : y < 0 ∨ ¬ y ≤ 10) (hS : kS h x T L u C Ac K kf sd) (hd : 20 ≤ d) : kx_Fn mX4_chance d 0 0 G [.ref x, .int y, .int (kb up)] N h (some (.int (-2)), N, h) := by
  refine kx_Fn_of rfl (Nat.le_of_ble_eq_true rfl) rfl ?_ (kx_self)
  obtain ⟨told, trial, F, B, s, f, hi, hf, hF, hC, hB, hL⟩ := id hS
  obtain ⟨s1, s2, s3, s4, s5, s6, s7, s8, s9, s10, s11⟩ := id hi
  refine ko_iload_n (i := 1) dX4_chance_0 rfl rfl ?_
  refine ko_if_lt (tgt := 10) dX4_chance_1 (by decide) (fun c_1 => ?_) (fun c_1 => ?_)
  · refine ko_bipush (v := (-2)) dX4_chance_10 (by decide) ?_
    refine ko_iret dX4_chance_12 rfl (Nat.le_of_ble_eq_true rfl) (Nat.le_of_ble_eq_true rfl) ?_
    rfl
  · refine ko_iload_n (i := 1) dX4_chance_4 rfl rfl ?_
    refine ko_bipush (v := 10) dX4_chance_5 (by decide) ?_
    refine ko_icmp_le (tgt := 13) dX4_chance_7 (by decide) (fun c_7 => ?_) (fun c_7 => ?_)
    · exact absurd ok (by simp [c_1, c_7])
    · refine ko_bipush (v := (-2)) dX4_chance_10 (by decide) ?_
      refine ko_iret dX4_chance_12 rfl (Nat.le_of_ble_eq_true rfl) (Nat.le_of_ble_eq_true rfl) ?_
      rfl
set_option maxRecDepth 20000 in
theorem x_chance1 {G : kx_G} {d N x : Nat} {h : kx_H} {T : Nat → Int32} {L : Nat} {u : PU} {C : Nat} {Ac K : Nat → PU} {kf : Nat → Int32} {sd : Int64} {m : Nat} {y : Int32} {up : Bool} {Q : Int32 → SU} (ok : ¬ y < 0 ∧ y ≤ 10) (hQ : ∀ op, seU u op (evI (pN u) &&& (op ^^^ (-1))) = Q op) (hm3 : unbI u = nI m) (hm : m < 32) (hS : kS h x T L u C Ac K kf sd) (hd : 20 ≤ d) : ∃ g, kx_Fn mX4_chance d 0 0 G [.ref x, .int y, .int (kb up)] N h (some (.int (frI (chA Q (pOp u) y m (m + 1)) (poI 10 (pcN m)) up)), N, g) ∧ kS g x T L u C Ac K kf sd ∧ kFr h g x 121 := by
  obtain ⟨told, trial, F, B, s, f, hi, hf, hF, hC, hB, hL⟩ := id hS
  obtain ⟨s1, s2, s3, s4, s5, s6, s7, s8, s9, s10, s11⟩ := id hi
  have fr : kFr h (kx_up h (x + 121) (kso (chS Q (pOp u) m s (m + 1)))) x 121 := kFr.up (by omega)
  refine ⟨_, kx_Fn_of rfl (Nat.le_of_ble_eq_true rfl) rfl ?_ (kS_dom hS fr), ⟨told, trial, F, B, _, f, kSi_serv hi _, hf, hF, hC, hB, hL⟩, fr⟩
  · have LOOP : ∀ (k i : Nat), k + i = (m + 1) → kx_Ok mX4_chance d 0 0 G 0 0 33 [(0, .ref x), (1, .int y), (2, .int (kb up)), (3, .int (nI m)), (4, .int (nI (pcN m))), (5, .int (chA Q (pOp u) y m i)), (6, .int (nI i))] [] N (kx_up h (x + 121) (kso (chS Q (pOp u) m s i))) (some (.int (frI (chA Q (pOp u) y m (m + 1)) (poI 10 (pcN m)) up)), N, kx_up h (x + 121) (kso (chS Q (pOp u) m s (m + 1)))) := by
      intro k
      induction k with
      | zero =>
        intro i hi
        obtain rfl : i = (m + 1) := by omega
        refine ko_iload (i := 6) dX4_chance_33 rfl ?_
        refine ko_iload_n (i := 3) dX4_chance_35 rfl rfl ?_
        refine ko_icmp_gt (tgt := 102) dX4_chance_36 (by decide) (fun c_36 => ?_) (fun c_36 => ?_)
        · refine ko_iload (i := 5) dX4_chance_102 rfl ?_
          refine ko_bipush (v := 10) dX4_chance_104 (by decide) ?_
          refine ko_iload (i := 4) dX4_chance_106 rfl ?_
          refine ko_callSr lk_X4_199 dX4_chance_108 (fn_power (d := d - 1) (by have := pc_5 m hm; omega)) rfl rfl (by omega) (by omega) (by omega) (Nat.le_of_ble_eq_true rfl) ?_
          refine ko_iload_n (i := 2) dX4_chance_111 rfl rfl ?_
          refine ko_callSr lk_X4_176 dX4_chance_112 (fn_fraction (d := d - 1)) rfl rfl (by omega) (by omega) (by omega) (Nat.le_of_ble_eq_true rfl) ?_
          refine ko_iret dX4_chance_115 rfl (Nat.le_of_ble_eq_true rfl) (Nat.le_of_ble_eq_true rfl) ?_
          rfl
        · exact absurd (show nI m < nI (m + 1) from nI_lt (by omega) (by omega)) c_36
      | succ k ih =>
        intro i hi
        refine ko_iload (i := 6) dX4_chance_33 rfl ?_
        refine ko_iload_n (i := 3) dX4_chance_35 rfl rfl ?_
        refine ko_icmp_gt (tgt := 102) dX4_chance_36 (by decide) (fun c_36 => ?_) (fun c_36 => ?_)
        · exact absurd (show nI m < nI i from c_36) (nI_nlt (by omega) (by omega))
        · refine ko_iload (i := 6) dX4_chance_39 rfl ?_
          refine ko_iload_n (i := 3) dX4_chance_41 rfl rfl ?_
          refine ko_iconst (v := (-1)) dX4_chance_42 (by decide) ?_
          refine ko_ixor dX4_chance_43 ?_
          refine ko_iand dX4_chance_44 ?_
          refine ko_st (st' := [.int (sbI _ _)]) rfl ?_
          refine ko_if_ne (tgt := 96) dX4_chance_45 (by decide) (fun c_45 => ?_) (fun c_45 => ?_)
          · refine ko_inc1 (i := 6) (lv' := [(0, _), (1, _), (2, _), (3, _), (4, _), (5, _), (6, _)]) dX4_chance_96 rfl (by decide) rfl rfl rfl ?_
            refine ko_goto (tgt := 33) dX4_chance_99 (by decide) ?_
            refine ko_keep [0, 1, 2, 3, 4, 5, 6] (lv' := [(0, _), (1, _), (2, _), (3, _), (4, _), (5, _), (6, .int (nI i + 1))]) rfl ?_
            have ei := ih (i + 1) (by omega)
            first
              | (rw [chA, chS, if_pos c_45, if_pos c_45, nI_succ] at ei; exact ei)
              | (have hc : ¬ ¬ sbI (nI i) (nI m) = 0 := fun z => z c_45
                 rw [chA, chS, if_neg hc, if_neg hc, if_pos c_62, nI_succ] at ei; exact ei)
              | (have hc : ¬ ¬ sbI (nI i) (nI m) = 0 := fun z => z c_45
                 have hb : ¬ decide ((Q (pOp u ||| nI i)).2.1 = bcI (pOp u ||| nI i)) = false := by rw [c_62]; decide
                 rw [chA, chS, if_neg hc, if_neg hc, if_neg hb, nI_succ] at ei; exact ei)
          · refine ko_aload_n (i := 0) dX4_chance_48 rfl rfl ?_
            refine ko_aload_n (i := 0) dX4_chance_49 rfl rfl ?_
            refine ko_get fl_X4_19 dX4_chance_50 ((ku_n (by omega)).trans s1) rfl ?_
            refine ko_get fl_X4_77 dX4_chance_53 (kP_up s5 (by omega)).1 rfl ?_
            refine ko_iload (i := 6) dX4_chance_56 rfl ?_
            refine ko_ior dX4_chance_58 ?_
            refine ko_callVr lk_X4_196 dX4_chance_59 (fn_allServed (d := d - 1) ((ku_n (by omega)).trans s1) (kP_up s5 (by omega)) ku_s (hQ _) (by omega)) rfl rfl ((ku_n (by omega)).trans s1) rfl rfl (by omega) (by omega) (by omega) (Nat.le_of_ble_eq_true rfl) ?_
            rw [ku_ku]
            first | refine ko_ifb_eq (tgt := 96) dX4_chance_62 (by decide) (fun c_62 => ?_) (fun c_62 => ?_) | refine ko_if_eq (tgt := 96) dX4_chance_62 (by decide) (fun c_62 => ?_) (fun c_62 => ?_)
            · refine ko_inc1 (i := 6) (lv' := [(0, _), (1, _), (2, _), (3, _), (4, _), (5, _), (6, _)]) dX4_chance_96 rfl (by decide) rfl rfl rfl ?_
              refine ko_goto (tgt := 33) dX4_chance_99 (by decide) ?_
              refine ko_keep [0, 1, 2, 3, 4, 5, 6] (lv' := [(0, _), (1, _), (2, _), (3, _), (4, _), (5, _), (6, .int (nI i + 1))]) rfl ?_
              have ei := ih (i + 1) (by omega)
              first
                | (rw [chA, chS, if_pos c_45, if_pos c_45, nI_succ] at ei; exact ei)
                | (have hc : ¬ ¬ sbI (nI i) (nI m) = 0 := fun z => z c_45
                   rw [chA, chS, if_neg hc, if_neg hc, if_pos c_62, nI_succ] at ei; exact ei)
                | (have hc : ¬ ¬ sbI (nI i) (nI m) = 0 := fun z => z c_45
                   have hb : ¬ decide ((Q (pOp u ||| nI i)).2.1 = bcI (pOp u ||| nI i)) = false := by rw [c_62]; decide
                   rw [chA, chS, if_neg hc, if_neg hc, if_neg hb, nI_succ] at ei; exact ei)
            · refine ko_iload (i := 6) dX4_chance_65 rfl ?_
              refine ko_callSr lk_X4_127 dX4_chance_67 (fn_bitCount (d := d - 1)) rfl rfl (by omega) (by omega) (by omega) (Nat.le_of_ble_eq_true rfl) ?_
              have hiL : i < 32 := by omega
              rw [bc_pc i hiL]
              refine ko_istore (i := 7) (lv' := [(0, _), (1, _), (2, _), (3, _), (4, _), (5, _), (6, _), (7, _)]) dX4_chance_70 (by decide) rfl rfl rfl ?_
              refine ko_iload (i := 5) dX4_chance_72 rfl ?_
              refine ko_iload_n (i := 1) dX4_chance_74 rfl rfl ?_
              refine ko_iload (i := 7) dX4_chance_75 rfl ?_
              refine ko_callSr lk_X4_199 dX4_chance_77 (fn_power (d := d - 1) (by have := pc_5 i hiL; omega)) rfl rfl (by omega) (by omega) (by omega) (Nat.le_of_ble_eq_true rfl) ?_
              refine ko_bipush (v := 10) dX4_chance_80 (by decide) ?_
              refine ko_iload_n (i := 1) dX4_chance_82 rfl rfl ?_
              refine ko_isub dX4_chance_83 ?_
              refine ko_iload (i := 4) dX4_chance_84 rfl ?_
              refine ko_iload (i := 7) dX4_chance_86 rfl ?_
              refine ko_isub dX4_chance_88 ?_
              rw [pk_sub (pc_le i hiL m hm c_45)]
              refine ko_callSr lk_X4_199 dX4_chance_89 (fn_power (d := d - 1) (by have := pc_5 m hm; omega)) rfl rfl (by omega) (by omega) (by omega) (Nat.le_of_ble_eq_true rfl) ?_
              refine ko_imul dX4_chance_92 ?_
              refine ko_iadd dX4_chance_93 ?_
              refine ko_istore (i := 5) (lv' := [(0, _), (1, _), (2, _), (3, _), (4, _), (5, _), (6, _), (7, _)]) dX4_chance_94 (by decide) rfl rfl rfl ?_
              refine ko_inc1 (i := 6) (lv' := [(0, _), (1, _), (2, _), (3, _), (4, _), (5, _), (6, _), (7, _)]) dX4_chance_96 rfl (by decide) rfl rfl rfl ?_
              refine ko_goto (tgt := 33) dX4_chance_99 (by decide) ?_
              refine ko_keep [0, 1, 2, 3, 4, 5, 6] (lv' := [(0, _), (1, _), (2, _), (3, _), (4, _), (5, _), (6, .int (nI i + 1))]) rfl ?_
              have ei := ih (i + 1) (by omega)
              first
                | (rw [chA, chS, if_pos c_45, if_pos c_45, nI_succ] at ei; exact ei)
                | (have hc : ¬ ¬ sbI (nI i) (nI m) = 0 := fun z => z c_45
                   rw [chA, chS, if_neg hc, if_neg hc, if_pos c_62, nI_succ] at ei; exact ei)
                | (have hc : ¬ ¬ sbI (nI i) (nI m) = 0 := fun z => z c_45
                   have hb : ¬ decide ((Q (pOp u ||| nI i)).2.1 = bcI (pOp u ||| nI i)) = false := by rw [c_62]; decide
                   rw [chA, chS, if_neg hc, if_neg hc, if_neg hb, nI_succ] at ei; exact ei)
    refine ko_iload_n (i := 1) dX4_chance_0 rfl rfl ?_
    refine ko_if_lt (tgt := 10) dX4_chance_1 (by decide) (fun c_1 => ?_) (fun c_1 => ?_)
    · exact absurd ok (by simp [c_1])
    · refine ko_iload_n (i := 1) dX4_chance_4 rfl rfl ?_
      refine ko_bipush (v := 10) dX4_chance_5 (by decide) ?_
      refine ko_icmp_le (tgt := 13) dX4_chance_7 (by decide) (fun c_7 => ?_) (fun c_7 => ?_)
      · refine ko_aload_n (i := 0) dX4_chance_13 rfl rfl ?_
        refine ko_get fl_X4_19 dX4_chance_14 s1 rfl ?_
        refine ko_callVr lk_X4_152 dX4_chance_17 (fn_unbereaved (d := d - 1) s5 (by omega)) rfl rfl s5.1 rfl rfl (by omega) (by omega) (by omega) (Nat.le_of_ble_eq_true rfl) ?_
        rw [hm3]
        refine ko_istore_n (i := 3) (lv' := [(0, _), (1, _), (2, _), (3, _)]) dX4_chance_20 rfl (by decide) rfl rfl rfl ?_
        refine ko_iload_n (i := 3) dX4_chance_21 rfl rfl ?_
        refine ko_callSr lk_X4_127 dX4_chance_22 (fn_bitCount (d := d - 1)) rfl rfl (by omega) (by omega) (by omega) (Nat.le_of_ble_eq_true rfl) ?_
        rw [bc_pc m hm]
        refine ko_istore (i := 4) (lv' := [(0, _), (1, _), (2, _), (3, _), (4, _)]) dX4_chance_25 (by decide) rfl rfl rfl ?_
        refine ko_iconst (v := 0) dX4_chance_27 (by decide) ?_
        refine ko_istore (i := 5) (lv' := [(0, _), (1, _), (2, _), (3, _), (4, _), (5, _)]) dX4_chance_28 (by decide) rfl rfl rfl ?_
        refine ko_iconst (v := 0) dX4_chance_30 (by decide) ?_
        refine ko_istore (i := 6) (lv' := [(0, _), (1, _), (2, _), (3, _), (4, _), (5, _), (6, _)]) dX4_chance_31 (by decide) rfl rfl rfl ?_
        exact ko_h (ku_same s11).symm (LOOP (m + 1) 0 (by omega))
      · exact absurd ok (by simp [c_1, c_7])
