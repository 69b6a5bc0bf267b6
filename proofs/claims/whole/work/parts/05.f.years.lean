/-! ===== the object: years; its making ===== -/
theorem pN_mk (u : PU) (p q : Int32) : pN (mkU u p q) = pN u := by
  unfold mkU
  split
  · split
    · rfl
    · rfl
  · rfl
theorem pN_br (u : PU) (p : Int32) : pN (brU u p) = pN u := by
  unfold brU
  split
  · split
    · rfl
    · rfl
  · rfl
theorem pN_st (u : PU) (p q : Int32) : pN (stU u p q) = pN u := by
  unfold stU
  split
  · split
    · exact pN_mk u p q
    · rfl
  · rfl
theorem pN_wf (u : PU) (p q : Int32) : pN (wfU u p q) = pN u := by
  unfold wfU
  split
  · split
    · exact pN_st _ p q
    · rfl
  · rfl
theorem pN_onU (u : PU) (p q : Int32) : pN (onU u p q) = pN u := by
  unfold onU
  split
  · exact pN_st _ p q
  · rfl
def ySd (z : Int64) : Int64 := z * 6364136223846793005 + 1442695040888963407
def yL0 (z : Int64) : Int64 := (z.toUInt64 >>> ((33 : Int32).toInt64.toUInt64 &&& Int64.toUInt64 63)).toInt64
def yLot (z : Int64) : Int32 := (yL0 z - yL0 z / 50 * 50).toInt32
def yQ (z : Int64) : Int32 := yLot z / 10
def yP (z : Int64) : Int32 := yLot z - yLot z / 10 * 10
def yV (v : PU) (z : Int64) : PU := wfU (brU v (yQ z)) (yP z) (yQ z)
def yW (v : PU) (z : Int64) : Int32 := wfI (brU v (yQ z)) (yP z) (yQ z)
def yZ (sd : Int64) : Nat → Int64
  | 0 => sd
  | i + 1 => ySd (yZ sd i)
def yU (u : PU) (n : Nat) (sd : Int64) : Nat → PU
  | 0 => u
  | i + 1 => pwU (yV (yU u n sd i) (yZ sd (i + 1))) n
def yC (u : PU) (n : Nat) (sd : Int64) : Nat → Int32
  | 0 => 0
  | i + 1 => if yW (yU u n sd i) (yZ sd (i + 1)) ≤ 0 then yC u n sd i else yC u n sd i + 1
theorem pN_yU (u : PU) (n : Nat) (sd : Int64) : ∀ i, pN (yU u n sd i) = pN u
  | 0 => rfl
  | i + 1 => by
    unfold yU yV
    rw [pN_pw, pN_wf, pN_br]
    exact pN_yU u n sd i
theorem pN_yV (v : PU) (z : Int64) : pN (yV v z) = pN v := by unfold yV; rw [pN_wf, pN_br]
set_option maxRecDepth 20000 in
theorem x_years0 {G : kx_G} {d N x : Nat} {h : kx_H} {T : Nat → Int32} {L : Nat} {u : PU} {C : Nat} {Ac K : Nat → PU} {kf : Nat → Int32} {sd : Int64} {y : Int32} (ok : y < 1 ∨ ¬ y ≤ 20) (hS : kS h x T L u C Ac K kf sd) (hd : 20 ≤ d) : kx_Fn mX4_years d 0 0 G [.ref x, .int y] N h (some (.int (-2)), N, h) := by
  refine kx_Fn_of rfl (Nat.le_of_ble_eq_true rfl) rfl ?_ (kx_self)
  obtain ⟨told, trial, F, B, s, f, hi, hf, hF, hC, hB, hL⟩ := id hS
  obtain ⟨s1, s2, s3, s4, s5, s6, s7, s8, s9, s10, s11⟩ := id hi
  refine ko_iload_n (i := 1) dX4_years_0 rfl rfl ?_
  refine ko_iconst (v := 1) dX4_years_1 (by decide) ?_
  refine ko_icmp_lt (tgt := 11) dX4_years_2 (by decide) (fun c_2 => ?_) (fun c_2 => ?_)
  · refine ko_bipush (v := (-2)) dX4_years_11 (by decide) ?_
    refine ko_iret dX4_years_13 rfl (Nat.le_of_ble_eq_true rfl) (Nat.le_of_ble_eq_true rfl) ?_
    rfl
  · refine ko_iload_n (i := 1) dX4_years_5 rfl rfl ?_
    refine ko_bipush (v := 20) dX4_years_6 (by decide) ?_
    refine ko_icmp_le (tgt := 14) dX4_years_8 (by decide) (fun c_8 => ?_) (fun c_8 => ?_)
    · exact absurd ok (by simp [c_2, c_8])
    · refine ko_bipush (v := (-2)) dX4_years_11 (by decide) ?_
      refine ko_iret dX4_years_13 rfl (Nat.le_of_ble_eq_true rfl) (Nat.le_of_ble_eq_true rfl) ?_
      rfl
set_option maxRecDepth 20000 in
theorem x_years1 {G : kx_G} {d N x : Nat} {h : kx_H} {T : Nat → Int32} {L : Nat} {u : PU} {C : Nat} {Ac K : Nat → PU} {kf : Nat → Int32} {sd : Int64} {n y : Nat} (hy : 1 ≤ y ∧ y ≤ 20) (hn : pN u = nI n) (hm : n ≤ 5) (hS : kS h x T L u C Ac K kf sd) (hd : 20 ≤ d) : ∃ g, kx_Fn mX4_years d 0 0 G [.ref x, .int (nI y)] N h (some (.int (yC u n sd y)), N, g) ∧ kS g x T L u C Ac K kf (yZ sd y) ∧ kFr h g x 121 := by
  obtain ⟨told, trial, F, B, s, f, hi, hf, hF, hC, hB, hL⟩ := id hS
  obtain ⟨s1, s2, s3, s4, s5, s6, s7, s8, s9, s10, s11⟩ := id hi
  have fr : kFr h (kx_up (kp_put h (x + 15) (yU u n sd y)) x (kxo x (yZ sd y))) x 121 := (kFr.put (by omega)).tr (kFr.up (by omega))
  refine ⟨_, kx_Fn_of rfl (Nat.le_of_ble_eq_true rfl) rfl ?_ (kS_dom hS fr), kS_seed (kS_trial hS _) _, fr⟩
  · have LOOP : ∀ (k i : Nat), k + i = y → kx_Ok mX4_years d 0 0 G 0 0 29 [(0, .ref x), (1, .int (nI y)), (2, .int (yC u n sd i)), (3, .int (nI i))] [] N (kx_up (kp_put h (x + 15) (yU u n sd i)) x (kxo x (yZ sd i))) (some (.int (yC u n sd y)), N, kx_up (kp_put h (x + 15) (yU u n sd y)) x (kxo x (yZ sd y))) := by
      intro k
      induction k with
      | zero =>
        intro i hi
        obtain rfl : y = i := by omega
        refine ko_iload_n (i := 3) dX4_years_29 rfl rfl ?_
        refine ko_iload_n (i := 1) dX4_years_30 rfl rfl ?_
        refine ko_icmp_ge (tgt := 112) dX4_years_31 (by decide) (fun c_31 => ?_) (fun c_31 => ?_)
        · refine ko_iload_n (i := 2) dX4_years_112 rfl rfl ?_
          refine ko_iret dX4_years_113 rfl (Nat.le_of_ble_eq_true rfl) (Nat.le_of_ble_eq_true rfl) ?_
          rfl
        · exact absurd (show nI y ≤ nI y by rw [(rfl : nI y = nI y)]; exact nI_le (Nat.le_refl _) (by omega)) c_31
      | succ k ih =>
        intro i hi
        refine ko_iload_n (i := 3) dX4_years_29 rfl rfl ?_
        refine ko_iload_n (i := 1) dX4_years_30 rfl rfl ?_
        refine ko_icmp_ge (tgt := 112) dX4_years_31 (by decide) (fun c_31 => ?_) (fun c_31 => ?_)
        · exact absurd (show nI y ≤ nI i from by rw [← (rfl : nI y = nI y)]; exact c_31) (nI_ge (by omega) (by omega))
        · refine ko_aload_n (i := 0) dX4_years_34 rfl rfl ?_
          refine ko_aload_n (i := 0) dX4_years_35 rfl rfl ?_
          refine ko_get fl_X4_48 dX4_years_36 ku_s rfl ?_
          refine ko_ldc2 dX4_years_39 fc_X4_202 ?_
          refine ko_lmul dX4_years_42 ?_
          refine ko_ldc2 dX4_years_43 fc_X4_204 ?_
          refine ko_ladd dX4_years_46 ?_
          refine ko_put fl_X4_48 dX4_years_47 ku_s rfl rfl (Nat.le_of_ble_eq_true rfl) ?_
          refine ko_h (ku_ku _ _ _ _) ?_
          refine ko_h (h' := kx_up (kp_put h (x + 15) (yU u n sd i)) x (kxo x (yZ sd (i + 1)))) rfl ?_
          refine ko_aload_n (i := 0) dX4_years_50 rfl rfl ?_
          refine ko_get fl_X4_48 dX4_years_51 ku_s rfl ?_
          refine ko_bipush (v := 33) dX4_years_54 (by decide) ?_
          refine ko_lushr dX4_years_56 ?_
          refine ko_ldc2 dX4_years_57 fc_X4_206 ?_
          refine ko_lrem dX4_years_60 (by decide) ?_
          refine ko_l2i dX4_years_61 ?_
          refine ko_st (st' := [.int (yLot (yZ sd (i + 1)))]) rfl ?_
          refine ko_istore (i := 4) (lv' := [(0, _), (1, _), (2, _), (3, _), (4, _)]) dX4_years_62 (by decide) rfl rfl rfl ?_
          refine ko_aload_n (i := 0) dX4_years_64 rfl rfl ?_
          refine ko_get fl_X4_23 dX4_years_65 ku_s rfl ?_
          refine ko_iload (i := 4) dX4_years_68 rfl ?_
          refine ko_bipush (v := 10) dX4_years_70 (by decide) ?_
          refine ko_idiv dX4_years_72 (by decide) ?_
          refine ko_st (st' := [.int (yQ (yZ sd (i + 1))), .ref (x + 15)]) rfl ?_
          refine ko_callVv lk_X4_123 dX4_years_73 (fn_bereave (d := d - 1) (kP_up (kp_put_P _ _ _) (by omega)) (by omega)) rfl rfl (kP_up (kp_put_P _ _ _) (by omega)).1 rfl rfl (by omega) (by omega) (by omega) (Nat.le_of_ble_eq_true rfl) ?_
          rw [kp_up_swap (by omega), kp_put_put]
          refine ko_aload_n (i := 0) dX4_years_76 rfl rfl ?_
          refine ko_get fl_X4_23 dX4_years_77 ku_s rfl ?_
          refine ko_iload (i := 4) dX4_years_80 rfl ?_
          refine ko_bipush (v := 10) dX4_years_82 (by decide) ?_
          refine ko_irem dX4_years_84 (by decide) ?_
          refine ko_st (st' := [.int (yP (yZ sd (i + 1))), .ref (x + 15)]) rfl ?_
          refine ko_iload (i := 4) dX4_years_85 rfl ?_
          refine ko_bipush (v := 10) dX4_years_87 (by decide) ?_
          refine ko_idiv dX4_years_89 (by decide) ?_
          refine ko_st (st' := [.int (yQ (yZ sd (i + 1))), .int (yP (yZ sd (i + 1))), .ref (x + 15)]) rfl ?_
          refine ko_callVr lk_X4_136 dX4_years_90 (fn_weepFor (d := d - 1) (kP_up (kp_put_P _ _ _) (by omega)) (by omega)) rfl rfl (kP_up (kp_put_P _ _ _) (by omega)).1 rfl rfl (by omega) (by omega) (by omega) (Nat.le_of_ble_eq_true rfl) ?_
          rw [kp_up_swap (by omega), kp_put_put]
          refine ko_st (st' := [.int (yW (yU u n sd i) (yZ sd (i + 1)))]) rfl ?_
          refine ko_h (h' := kx_up (kp_put h (x + 15) (yV (yU u n sd i) (yZ sd (i + 1)))) x (kxo x (yZ sd (i + 1)))) rfl ?_
          refine ko_if_le (tgt := 99) dX4_years_93 (by decide) (fun c_93 => ?_) (fun c_93 => ?_)
          · refine ko_aload_n (i := 0) dX4_years_99 rfl rfl ?_
            refine ko_get fl_X4_23 dX4_years_100 ku_s rfl ?_
            refine ko_callVv lk_X4_146 dX4_years_103 (fn_passWeek (d := d - 1) (m := n) (kP_up (kp_put_P _ _ _) (by omega)) ((pN_yV _ _).trans ((pN_yU u n sd i).trans hn)) hm (by omega)) rfl rfl (kP_up (kp_put_P _ _ _) (by omega)).1 rfl rfl (by omega) (by omega) (by omega) (Nat.le_of_ble_eq_true rfl) ?_
            rw [kp_up_swap (by omega), kp_put_put]
            refine ko_inc1 (i := 3) (lv' := [(0, _), (1, _), (2, _), (3, _), (4, _)]) dX4_years_106 rfl (by decide) rfl rfl rfl ?_
            refine ko_goto (tgt := 29) dX4_years_109 (by decide) ?_
            refine ko_keep [0, 1, 2, 3] (lv' := [(0, _), (1, _), (2, _), (3, .int (nI i + 1))]) rfl ?_
            have ei := ih (i + 1) (by omega)
            first
              | (rw [yC, if_pos c_93, nI_succ] at ei; exact ei)
              | (rw [yC, if_neg c_93, nI_succ] at ei; exact ei)
          · refine ko_inc1 (i := 2) (lv' := [(0, _), (1, _), (2, _), (3, _), (4, _)]) dX4_years_96 rfl (by decide) rfl rfl rfl ?_
            refine ko_aload_n (i := 0) dX4_years_99 rfl rfl ?_
            refine ko_get fl_X4_23 dX4_years_100 ku_s rfl ?_
            refine ko_callVv lk_X4_146 dX4_years_103 (fn_passWeek (d := d - 1) (m := n) (kP_up (kp_put_P _ _ _) (by omega)) ((pN_yV _ _).trans ((pN_yU u n sd i).trans hn)) hm (by omega)) rfl rfl (kP_up (kp_put_P _ _ _) (by omega)).1 rfl rfl (by omega) (by omega) (by omega) (Nat.le_of_ble_eq_true rfl) ?_
            rw [kp_up_swap (by omega), kp_put_put]
            refine ko_inc1 (i := 3) (lv' := [(0, _), (1, _), (2, _), (3, _), (4, _)]) dX4_years_106 rfl (by decide) rfl rfl rfl ?_
            refine ko_goto (tgt := 29) dX4_years_109 (by decide) ?_
            refine ko_keep [0, 1, 2, 3] (lv' := [(0, _), (1, _), (2, _), (3, .int (nI i + 1))]) rfl ?_
            have ei := ih (i + 1) (by omega)
            first
              | (rw [yC, if_pos c_93, nI_succ] at ei; exact ei)
              | (rw [yC, if_neg c_93, nI_succ] at ei; exact ei)
    refine ko_iload_n (i := 1) dX4_years_0 rfl rfl ?_
    refine ko_iconst (v := 1) dX4_years_1 (by decide) ?_
    refine ko_icmp_lt (tgt := 11) dX4_years_2 (by decide) (fun c_2 => ?_) (fun c_2 => ?_)
    · first | exact absurd c_2 (fun z => absurd (show nI y < nI 1 from z) (nI_nlt (by omega) (by omega))) | exact absurd (show nI y ≤ nI 20 from nI_le (by omega) (by omega)) c_8
    · refine ko_iload_n (i := 1) dX4_years_5 rfl rfl ?_
      refine ko_bipush (v := 20) dX4_years_6 (by decide) ?_
      refine ko_icmp_le (tgt := 14) dX4_years_8 (by decide) (fun c_8 => ?_) (fun c_8 => ?_)
      · refine ko_aload_n (i := 0) dX4_years_14 rfl rfl ?_
        refine ko_get fl_X4_23 dX4_years_15 s1 rfl ?_
        refine ko_aload_n (i := 0) dX4_years_18 rfl rfl ?_
        refine ko_get fl_X4_19 dX4_years_19 s1 rfl ?_
        refine ko_callVv lk_X4_67 dX4_years_22 (fn_copyFrom (d := d - 1) s6 s5 (by omega) (by omega)) rfl rfl s6.1 rfl rfl (by omega) (by omega) (by omega) (Nat.le_of_ble_eq_true rfl) ?_
        refine ko_iconst (v := 0) dX4_years_25 (by decide) ?_
        refine ko_istore_n (i := 2) (lv' := [(0, _), (1, _), (2, _)]) dX4_years_26 rfl (by decide) rfl rfl rfl ?_
        refine ko_iconst (v := 0) dX4_years_27 (by decide) ?_
        refine ko_istore_n (i := 3) (lv' := [(0, _), (1, _), (2, _), (3, _)]) dX4_years_28 rfl (by decide) rfl rfl rfl ?_
        refine ko_h (h' := kx_up (kp_put h (x + 15) u) x (kxo x sd)) (ku_same ((kp_put_out (by omega)).trans s1)).symm ?_
        exact LOOP y 0 (by omega)
      · first | exact absurd c_2 (fun z => absurd (show nI y < nI 1 from z) (nI_nlt (by omega) (by omega))) | exact absurd (show nI y ≤ nI 20 from nI_le (by omega) (by omega)) c_8
abbrev kxb : va_E := .inr (4, [.null, .null, .null, .null, .null, .null, .null, .long 0])
abbrev PNEW : List Value := [.null, .null, .null, .null, .null, .int 0, .int 0, .int 0, .int 0]
def kf2 (x i : Nat) : Nat → Option Nat := fun j => if j < i then some (x + 109 + 6 * j) else none
theorem kf2_s (x i : Nat) : va_up (kf2 x i) i (some (x + 109 + 6 * i)) = kf2 x (i + 1) := by
  funext j
  unfold va_up kf2
  by_cases h1 : j = i
  · rw [if_pos h1, if_pos (by omega), h1]
  · rw [if_neg h1]
    by_cases h2 : j < i
    · rw [if_pos h2, if_pos (by omega)]
    · rw [if_neg h2, if_neg (by omega)]
/-- the object half made: what stands when i of the slots' people are made -/
def xk (g : kx_H) (x : Nat) : Nat → kx_H
  | 0 => g
  | i + 1 => kx_up (kp_put (xk g x i) (x + 109 + 6 * i) pZ) (x + 107) (kr 2 (kf2 x (i + 1)))
theorem xk_out (g : kx_H) (x : Nat) : ∀ i q, (q < x + 107 ∨ q = x + 108 ∨ x + 108 + 6 * i < q) → xk g x i q = g q
  | 0, q, hq => rfl
  | i + 1, q, hq => by unfold xk; rw [ku_n (by omega), kp_put_out (by omega)]; exact xk_out g x i q (by omega)
theorem xk_a (g : kx_H) (x : Nat) (hg : g (x + 107) = some (kr 2 (kf2 x 0))) : ∀ i, xk g x i (x + 107) = some (kr 2 (kf2 x i))
  | 0 => hg
  | i + 1 => by unfold xk; rw [ku_s]
theorem xk_P (g : kx_H) (x : Nat) : ∀ i j, j < i → kP (xk g x i) (x + 109 + 6 * j) pZ
  | i + 1, j, hj => by
    unfold xk
    refine kP_up ?_ (by omega)
    by_cases h1 : j = i
    · subst h1; exact kp_put_P _ _ _
    · exact kp_put_other (xk_P g x i j (by omega)) (by omega)
