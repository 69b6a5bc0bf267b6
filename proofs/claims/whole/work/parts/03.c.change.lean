/-! ===== People: what its methods change ===== -/
def mkU (u : PU) (p q : Int32) : PU := if hasI (pN u) p = true then if hasI (pN u) q = true then (u.1, u.2.1, u.2.2.1, upd (upd (pKn u) p.toNatClampNeg (pKn u p.toNatClampNeg ||| 1 <<< (q &&& 31))) q.toNatClampNeg ((upd (pKn u) p.toNatClampNeg (pKn u p.toNatClampNeg ||| 1 <<< (q &&& 31))) q.toNatClampNeg ||| 1 <<< (p &&& 31)), u.2.2.2.2) else u else u
set_option maxRecDepth 20000 in
theorem fn_makeKin {G : kx_G} {d N a : Nat} {h : kx_H} {u : PU} {p q : Int32} (hP : kP h a u) (hd : 1 ≤ d) : kx_Fn mX2_makeKin d 0 0 G [.ref a, .int p, .int q] N h (none, N, kp_put h a (mkU u p q)) := by
  refine kx_Fn_of rfl (Nat.le_of_ble_eq_true rfl) rfl ?_ (kp_dom hP)
  refine ko_h (kp_put_same hP).symm ?_
  refine ko_aload_n (i := 0) dX2_makeKin_0 rfl rfl ?_
  refine ko_iload_n (i := 1) dX2_makeKin_1 rfl rfl ?_
  refine ko_callVr lk_X2_54 dX2_makeKin_2 (fn_has (d := d - 1) (kp_put_P _ _ _)) rfl rfl (kp_put_P _ _ _).1 rfl rfl (by omega) (by omega) (by omega) (Nat.le_of_ble_eq_true rfl) ?_
  first | refine ko_ifb_eq (tgt := 40) dX2_makeKin_5 (by decide) (fun c_5 => ?_) (fun c_5 => ?_) | refine ko_if_eq (tgt := 40) dX2_makeKin_5 (by decide) (fun c_5 => ?_) (fun c_5 => ?_)
  · refine ko_vret dX2_makeKin_40 rfl (Nat.le_of_ble_eq_true rfl) (Nat.le_of_ble_eq_true rfl) ?_
    simp [mkU, c_5]
  · refine ko_aload_n (i := 0) dX2_makeKin_8 rfl rfl ?_
    refine ko_iload_n (i := 2) dX2_makeKin_9 rfl rfl ?_
    refine ko_callVr lk_X2_54 dX2_makeKin_10 (fn_has (d := d - 1) (kp_put_P _ _ _)) rfl rfl (kp_put_P _ _ _).1 rfl rfl (by omega) (by omega) (by omega) (Nat.le_of_ble_eq_true rfl) ?_
    first | refine ko_ifb_eq (tgt := 40) dX2_makeKin_13 (by decide) (fun c_13 => ?_) (fun c_13 => ?_) | refine ko_if_eq (tgt := 40) dX2_makeKin_13 (by decide) (fun c_13 => ?_) (fun c_13 => ?_)
    · refine ko_vret dX2_makeKin_40 rfl (Nat.le_of_ble_eq_true rfl) (Nat.le_of_ble_eq_true rfl) ?_
      simp [mkU, c_5, c_13]
    · refine ko_aload_n (i := 0) dX2_makeKin_16 rfl rfl ?_
      refine ko_get fl_X2_21 dX2_makeKin_17 (kp_put_P _ _ _).1 rfl ?_
      refine ko_iload_n (i := 1) dX2_makeKin_20 rfl rfl ?_
      refine ko_dup2 dX2_makeKin_21 rfl rfl ?_
      refine ko_iald dX2_makeKin_22 (kp_put_P _ _ _).2.2.2.2.1 (hasI_in c_5) ?_
      refine ko_iconst (v := 1) dX2_makeKin_23 (by decide) ?_
      refine ko_iload_n (i := 2) dX2_makeKin_24 rfl rfl ?_
      refine ko_ishl dX2_makeKin_25 ?_
      refine ko_ior dX2_makeKin_26 ?_
      refine ko_iast dX2_makeKin_27 (kp_put_P _ _ _).2.2.2.2.1 (hasI_in c_5) ?_
      refine ko_h kq_4 ?_
      refine ko_aload_n (i := 0) dX2_makeKin_28 rfl rfl ?_
      refine ko_get fl_X2_21 dX2_makeKin_29 (kp_put_P _ _ _).1 rfl ?_
      refine ko_iload_n (i := 2) dX2_makeKin_32 rfl rfl ?_
      refine ko_dup2 dX2_makeKin_33 rfl rfl ?_
      refine ko_iald dX2_makeKin_34 (kp_put_P _ _ _).2.2.2.2.1 (hasI_in c_13) ?_
      refine ko_iconst (v := 1) dX2_makeKin_35 (by decide) ?_
      refine ko_iload_n (i := 1) dX2_makeKin_36 rfl rfl ?_
      refine ko_ishl dX2_makeKin_37 ?_
      refine ko_ior dX2_makeKin_38 ?_
      refine ko_iast dX2_makeKin_39 (kp_put_P _ _ _).2.2.2.2.1 (hasI_in c_13) ?_
      refine ko_h kq_4 ?_
      refine ko_vret dX2_makeKin_40 rfl (Nat.le_of_ble_eq_true rfl) (Nat.le_of_ble_eq_true rfl) ?_
      simp [mkU, c_5, c_13]
def brU (u : PU) (p : Int32) : PU := if hasI (pN u) p = true then if hbI (pOp u) p = true then u else (upd (pSo u) p.toNatClampNeg 9, upd (pAg u) p.toNatClampNeg 0, u.2.2.1, u.2.2.2.1, u.2.2.2.2.1, u.2.2.2.2.2.1, pOp u ||| 1 <<< (p &&& 31), u.2.2.2.2.2.2.2) else u
set_option maxRecDepth 20000 in
theorem fn_bereave {G : kx_G} {d N a : Nat} {h : kx_H} {u : PU} {p : Int32} (hP : kP h a u) (hd : 2 ≤ d) : kx_Fn mX2_bereave d 0 0 G [.ref a, .int p] N h (none, N, kp_put h a (brU u p)) := by
  refine kx_Fn_of rfl (Nat.le_of_ble_eq_true rfl) rfl ?_ (kp_dom hP)
  refine ko_h (kp_put_same hP).symm ?_
  refine ko_aload_n (i := 0) dX2_bereave_0 rfl rfl ?_
  refine ko_iload_n (i := 1) dX2_bereave_1 rfl rfl ?_
  refine ko_callVr lk_X2_54 dX2_bereave_2 (fn_has (d := d - 1) (kp_put_P _ _ _)) rfl rfl (kp_put_P _ _ _).1 rfl rfl (by omega) (by omega) (by omega) (Nat.le_of_ble_eq_true rfl) ?_
  first | refine ko_ifb_eq (tgt := 43) dX2_bereave_5 (by decide) (fun c_5 => ?_) (fun c_5 => ?_) | refine ko_if_eq (tgt := 43) dX2_bereave_5 (by decide) (fun c_5 => ?_) (fun c_5 => ?_)
  · refine ko_vret dX2_bereave_43 rfl (Nat.le_of_ble_eq_true rfl) (Nat.le_of_ble_eq_true rfl) ?_
    simp [brU, c_5]
  · refine ko_aload_n (i := 0) dX2_bereave_8 rfl rfl ?_
    refine ko_iload_n (i := 1) dX2_bereave_9 rfl rfl ?_
    refine ko_callVr lk_X2_65 dX2_bereave_10 (fn_isOpen (d := d - 1) (kp_put_P _ _ _) (by omega)) rfl rfl (kp_put_P _ _ _).1 rfl rfl (by omega) (by omega) (by omega) (Nat.le_of_ble_eq_true rfl) ?_
    first | refine ko_ifb_ne (tgt := 43) dX2_bereave_13 (by decide) (fun c_13 => ?_) (fun c_13 => ?_) | refine ko_if_ne (tgt := 43) dX2_bereave_13 (by decide) (fun c_13 => ?_) (fun c_13 => ?_)
    · refine ko_vret dX2_bereave_43 rfl (Nat.le_of_ble_eq_true rfl) (Nat.le_of_ble_eq_true rfl) ?_
      simp [brU, c_5, c_13]
    · refine ko_aload_n (i := 0) dX2_bereave_16 rfl rfl ?_
      refine ko_get fl_X2_9 dX2_bereave_17 (kp_put_P _ _ _).1 rfl ?_
      refine ko_iload_n (i := 1) dX2_bereave_20 rfl rfl ?_
      refine ko_bipush (v := 9) dX2_bereave_21 (by decide) ?_
      first | refine ko_iast dX2_bereave_23 (kp_put_P _ _ _).2.1 (hasI_in c_5) ?_ | refine ko_iast dX2_bereave_23 (kp_put_P _ _ _).2.2.1 (hasI_in c_5) ?_
      refine ko_h kq_1 ?_
      refine ko_aload_n (i := 0) dX2_bereave_24 rfl rfl ?_
      refine ko_get fl_X2_15 dX2_bereave_25 (kp_put_P _ _ _).1 rfl ?_
      refine ko_iload_n (i := 1) dX2_bereave_28 rfl rfl ?_
      refine ko_iconst (v := 0) dX2_bereave_29 (by decide) ?_
      first | refine ko_iast dX2_bereave_30 (kp_put_P _ _ _).2.1 (hasI_in c_5) ?_ | refine ko_iast dX2_bereave_30 (kp_put_P _ _ _).2.2.1 (hasI_in c_5) ?_
      refine ko_h kq_2 ?_
      refine ko_aload_n (i := 0) dX2_bereave_31 rfl rfl ?_
      refine ko_dup dX2_bereave_32 rfl ?_
      refine ko_get fl_X2_37 dX2_bereave_33 (kp_put_P _ _ _).1 rfl ?_
      refine ko_iconst (v := 1) dX2_bereave_36 (by decide) ?_
      refine ko_iload_n (i := 1) dX2_bereave_37 rfl rfl ?_
      refine ko_ishl dX2_bereave_38 ?_
      refine ko_ior dX2_bereave_39 ?_
      refine ko_put fl_X2_37 dX2_bereave_40 (kp_put_P _ _ _).1 rfl rfl (Nat.le_of_ble_eq_true rfl) ?_
      refine ko_h kq_op ?_
      refine ko_vret dX2_bereave_43 rfl (Nat.le_of_ble_eq_true rfl) (Nat.le_of_ble_eq_true rfl) ?_
      simp [brU, c_5, c_13]
def stV (v : PU) (p q : Int32) : PU := (v.1, v.2.1, v.2.2.1, v.2.2.2.1, upd (pOw v) (q * 5 + p).toNatClampNeg (pOw v (q * 5 + p).toNatClampNeg + 1), v.2.2.2.2.2.1, pOp v &&& (1 <<< (q &&& 31) ^^^ (-1)), v.2.2.2.2.2.2.2)
def stU (u : PU) (p q : Int32) : PU := if hasI (pN u) p = true then if hasI (pN u) q = true then stV (mkU u p q) p q else u else u
set_option maxRecDepth 20000 in
theorem fn_settle {G : kx_G} {d N a : Nat} {h : kx_H} {u : PU} {p q : Int32} (hP : kP h a u) (hd : 2 ≤ d) : kx_Fn mX2_settle d 0 0 G [.ref a, .int p, .int q] N h (none, N, kp_put h a (stU u p q)) := by
  refine kx_Fn_of rfl (Nat.le_of_ble_eq_true rfl) rfl ?_ (kp_dom hP)
  refine ko_h (kp_put_same hP).symm ?_
  refine ko_aload_n (i := 0) dX2_settle_0 rfl rfl ?_
  refine ko_iload_n (i := 1) dX2_settle_1 rfl rfl ?_
  refine ko_callVr lk_X2_54 dX2_settle_2 (fn_has (d := d - 1) (kp_put_P _ _ _)) rfl rfl (kp_put_P _ _ _).1 rfl rfl (by omega) (by omega) (by omega) (Nat.le_of_ble_eq_true rfl) ?_
  first | refine ko_ifb_eq (tgt := 50) dX2_settle_5 (by decide) (fun c_5 => ?_) (fun c_5 => ?_) | refine ko_if_eq (tgt := 50) dX2_settle_5 (by decide) (fun c_5 => ?_) (fun c_5 => ?_)
  · refine ko_vret dX2_settle_50 rfl (Nat.le_of_ble_eq_true rfl) (Nat.le_of_ble_eq_true rfl) ?_
    simp [stU, stV, c_5]
  · refine ko_aload_n (i := 0) dX2_settle_8 rfl rfl ?_
    refine ko_iload_n (i := 2) dX2_settle_9 rfl rfl ?_
    refine ko_callVr lk_X2_54 dX2_settle_10 (fn_has (d := d - 1) (kp_put_P _ _ _)) rfl rfl (kp_put_P _ _ _).1 rfl rfl (by omega) (by omega) (by omega) (Nat.le_of_ble_eq_true rfl) ?_
    first | refine ko_ifb_eq (tgt := 50) dX2_settle_13 (by decide) (fun c_13 => ?_) (fun c_13 => ?_) | refine ko_if_eq (tgt := 50) dX2_settle_13 (by decide) (fun c_13 => ?_) (fun c_13 => ?_)
    · refine ko_vret dX2_settle_50 rfl (Nat.le_of_ble_eq_true rfl) (Nat.le_of_ble_eq_true rfl) ?_
      simp [stU, stV, c_5, c_13]
    · refine ko_aload_n (i := 0) dX2_settle_16 rfl rfl ?_
      refine ko_iload_n (i := 1) dX2_settle_17 rfl rfl ?_
      refine ko_iload_n (i := 2) dX2_settle_18 rfl rfl ?_
      refine ko_callVv lk_X2_91 dX2_settle_19 (fn_makeKin (d := d - 1) (kp_put_P _ _ _) (by omega)) rfl rfl (kp_put_P _ _ _).1 rfl rfl (by omega) (by omega) (by omega) (Nat.le_of_ble_eq_true rfl) ?_
      rw [kp_put_put]
      refine ko_aload_n (i := 0) dX2_settle_22 rfl rfl ?_
      refine ko_get fl_X2_24 dX2_settle_23 (kp_put_P _ _ _).1 rfl ?_
      refine ko_iload_n (i := 2) dX2_settle_26 rfl rfl ?_
      refine ko_iconst (v := 5) dX2_settle_27 (by decide) ?_
      refine ko_imul dX2_settle_28 ?_
      refine ko_iload_n (i := 1) dX2_settle_29 rfl rfl ?_
      refine ko_iadd dX2_settle_30 ?_
      refine ko_dup2 dX2_settle_31 rfl rfl ?_
      refine ko_iald dX2_settle_32 (kp_put_P _ _ _).2.2.2.2.2 (in25 c_13 c_5).1 ?_
      refine ko_iconst (v := 1) dX2_settle_33 (by decide) ?_
      refine ko_iadd dX2_settle_34 ?_
      refine ko_iast dX2_settle_35 (kp_put_P _ _ _).2.2.2.2.2 (in25 c_13 c_5).1 ?_
      refine ko_h kq_5 ?_
      refine ko_aload_n (i := 0) dX2_settle_36 rfl rfl ?_
      refine ko_dup dX2_settle_37 rfl ?_
      refine ko_get fl_X2_37 dX2_settle_38 (kp_put_P _ _ _).1 rfl ?_
      refine ko_iconst (v := 1) dX2_settle_41 (by decide) ?_
      refine ko_iload_n (i := 2) dX2_settle_42 rfl rfl ?_
      refine ko_ishl dX2_settle_43 ?_
      refine ko_iconst (v := (-1)) dX2_settle_44 (by decide) ?_
      refine ko_ixor dX2_settle_45 ?_
      refine ko_iand dX2_settle_46 ?_
      refine ko_put fl_X2_37 dX2_settle_47 (kp_put_P _ _ _).1 rfl rfl (Nat.le_of_ble_eq_true rfl) ?_
      refine ko_h kq_op ?_
      refine ko_vret dX2_settle_50 rfl (Nat.le_of_ble_eq_true rfl) (Nat.le_of_ble_eq_true rfl) ?_
      simp [stU, stV, c_5, c_13]
def wfU (u : PU) (p q : Int32) : PU := if hasI (pN u) p = true then if mayI u p q = true then stU (upd (pSo u) p.toNatClampNeg (pSo u p.toNatClampNeg - ozI u p), u.2) p q else u else u
def wfI (u : PU) (p q : Int32) : Int32 := if hasI (pN u) p = true then if mayI u p q = true then ozI u p else 0 else 0
set_option maxRecDepth 20000 in
theorem fn_weepFor {G : kx_G} {d N a : Nat} {h : kx_H} {u : PU} {p q : Int32} (hP : kP h a u) (hd : 4 ≤ d) : kx_Fn mX2_weepFor d 0 0 G [.ref a, .int p, .int q] N h (some (.int (wfI u p q)), N, kp_put h a (wfU u p q)) := by
  refine kx_Fn_of rfl (Nat.le_of_ble_eq_true rfl) rfl ?_ (kp_dom hP)
  refine ko_h (kp_put_same hP).symm ?_
  refine ko_aload_n (i := 0) dX2_weepFor_0 rfl rfl ?_
  refine ko_iload_n (i := 1) dX2_weepFor_1 rfl rfl ?_
  refine ko_callVr lk_X2_54 dX2_weepFor_2 (fn_has (d := d - 1) (kp_put_P _ _ _)) rfl rfl (kp_put_P _ _ _).1 rfl rfl (by omega) (by omega) (by omega) (Nat.le_of_ble_eq_true rfl) ?_
  first | refine ko_ifb_eq (tgt := 17) dX2_weepFor_5 (by decide) (fun c_5 => ?_) (fun c_5 => ?_) | refine ko_if_eq (tgt := 17) dX2_weepFor_5 (by decide) (fun c_5 => ?_) (fun c_5 => ?_)
  · refine ko_iconst (v := 0) dX2_weepFor_17 (by decide) ?_
    refine ko_iret dX2_weepFor_18 rfl (Nat.le_of_ble_eq_true rfl) (Nat.le_of_ble_eq_true rfl) ?_
    simp [wfU, wfI, c_5]
  · refine ko_aload_n (i := 0) dX2_weepFor_8 rfl rfl ?_
    refine ko_iload_n (i := 1) dX2_weepFor_9 rfl rfl ?_
    refine ko_iload_n (i := 2) dX2_weepFor_10 rfl rfl ?_
    refine ko_callVr lk_X2_71 dX2_weepFor_11 (fn_mayWeep (d := d - 1) (kp_put_P _ _ _) (by omega)) rfl rfl (kp_put_P _ _ _).1 rfl rfl (by omega) (by omega) (by omega) (Nat.le_of_ble_eq_true rfl) ?_
    first | refine ko_ifb_ne (tgt := 19) dX2_weepFor_14 (by decide) (fun c_14 => ?_) (fun c_14 => ?_) | refine ko_if_ne (tgt := 19) dX2_weepFor_14 (by decide) (fun c_14 => ?_) (fun c_14 => ?_)
    · refine ko_aload_n (i := 0) dX2_weepFor_19 rfl rfl ?_
      refine ko_iload_n (i := 1) dX2_weepFor_20 rfl rfl ?_
      refine ko_callVr lk_X2_58 dX2_weepFor_21 (fn_ounces (d := d - 1) (kp_put_P _ _ _) (by omega)) rfl rfl (kp_put_P _ _ _).1 rfl rfl (by omega) (by omega) (by omega) (Nat.le_of_ble_eq_true rfl) ?_
      refine ko_istore_n (i := 3) (lv' := [(0, _), (1, _), (2, _), (3, _)]) dX2_weepFor_24 rfl (by decide) rfl rfl rfl ?_
      refine ko_aload_n (i := 0) dX2_weepFor_25 rfl rfl ?_
      refine ko_get fl_X2_9 dX2_weepFor_26 (kp_put_P _ _ _).1 rfl ?_
      refine ko_iload_n (i := 1) dX2_weepFor_29 rfl rfl ?_
      refine ko_dup2 dX2_weepFor_30 rfl rfl ?_
      refine ko_iald dX2_weepFor_31 (kp_put_P _ _ _).2.1 (hasI_in c_5) ?_
      refine ko_iload_n (i := 3) dX2_weepFor_32 rfl rfl ?_
      refine ko_isub dX2_weepFor_33 ?_
      refine ko_iast dX2_weepFor_34 (kp_put_P _ _ _).2.1 (hasI_in c_5) ?_
      refine ko_h kq_1 ?_
      refine ko_aload_n (i := 0) dX2_weepFor_35 rfl rfl ?_
      refine ko_iload_n (i := 1) dX2_weepFor_36 rfl rfl ?_
      refine ko_iload_n (i := 2) dX2_weepFor_37 rfl rfl ?_
      refine ko_callVv lk_X2_84 dX2_weepFor_38 (fn_settle (d := d - 1) (kp_put_P _ _ _) (by omega)) rfl rfl (kp_put_P _ _ _).1 rfl rfl (by omega) (by omega) (by omega) (Nat.le_of_ble_eq_true rfl) ?_
      rw [kp_put_put]
      refine ko_iload_n (i := 3) dX2_weepFor_41 rfl rfl ?_
      refine ko_iret dX2_weepFor_42 rfl (Nat.le_of_ble_eq_true rfl) (Nat.le_of_ble_eq_true rfl) ?_
      simp [wfU, wfI, c_5, c_14]
    · refine ko_iconst (v := 0) dX2_weepFor_17 (by decide) ?_
      refine ko_iret dX2_weepFor_18 rfl (Nat.le_of_ble_eq_true rfl) (Nat.le_of_ble_eq_true rfl) ?_
      simp [wfU, wfI, c_5, c_14]
def onU (u : PU) (p q : Int32) : PU := if onyI u p q = true then stU (u.1, u.2.1, u.2.2.1, u.2.2.2.1, u.2.2.2.2.1, u.2.2.2.2.2.1, u.2.2.2.2.2.2.1, pOn u ||| 1 <<< (p &&& 31), u.2.2.2.2.2.2.2.2) p q else u
set_option maxRecDepth 20000 in
theorem fn_useOnions {G : kx_G} {d N a : Nat} {h : kx_H} {u : PU} {p q : Int32} (hP : kP h a u) (hd : 3 ≤ d) : kx_Fn mX2_useOnions d 0 0 G [.ref a, .int p, .int q] N h (none, N, kp_put h a (onU u p q)) := by
  refine kx_Fn_of rfl (Nat.le_of_ble_eq_true rfl) rfl ?_ (kp_dom hP)
  refine ko_h (kp_put_same hP).symm ?_
  refine ko_aload_n (i := 0) dX2_useOnions_0 rfl rfl ?_
  refine ko_iload_n (i := 1) dX2_useOnions_1 rfl rfl ?_
  refine ko_iload_n (i := 2) dX2_useOnions_2 rfl rfl ?_
  refine ko_callVr lk_X2_88 dX2_useOnions_3 (fn_mayUseOnions (d := d - 1) (kp_put_P _ _ _) (by omega)) rfl rfl (kp_put_P _ _ _).1 rfl rfl (by omega) (by omega) (by omega) (Nat.le_of_ble_eq_true rfl) ?_
  first | refine ko_ifb_eq (tgt := 27) dX2_useOnions_6 (by decide) (fun c_6 => ?_) (fun c_6 => ?_) | refine ko_if_eq (tgt := 27) dX2_useOnions_6 (by decide) (fun c_6 => ?_) (fun c_6 => ?_)
  · refine ko_vret dX2_useOnions_27 rfl (Nat.le_of_ble_eq_true rfl) (Nat.le_of_ble_eq_true rfl) ?_
    simp [onU, c_6]
  · refine ko_aload_n (i := 0) dX2_useOnions_9 rfl rfl ?_
    refine ko_dup dX2_useOnions_10 rfl ?_
    refine ko_get fl_X2_40 dX2_useOnions_11 (kp_put_P _ _ _).1 rfl ?_
    refine ko_iconst (v := 1) dX2_useOnions_14 (by decide) ?_
    refine ko_iload_n (i := 1) dX2_useOnions_15 rfl rfl ?_
    refine ko_ishl dX2_useOnions_16 ?_
    refine ko_ior dX2_useOnions_17 ?_
    refine ko_put fl_X2_40 dX2_useOnions_18 (kp_put_P _ _ _).1 rfl rfl (Nat.le_of_ble_eq_true rfl) ?_
    refine ko_h kq_on ?_
    refine ko_aload_n (i := 0) dX2_useOnions_21 rfl rfl ?_
    refine ko_iload_n (i := 1) dX2_useOnions_22 rfl rfl ?_
    refine ko_iload_n (i := 2) dX2_useOnions_23 rfl rfl ?_
    refine ko_callVv lk_X2_84 dX2_useOnions_24 (fn_settle (d := d - 1) (kp_put_P _ _ _) (by omega)) rfl rfl (kp_put_P _ _ _).1 rfl rfl (by omega) (by omega) (by omega) (Nat.le_of_ble_eq_true rfl) ?_
    rw [kp_put_put]
    refine ko_vret dX2_useOnions_27 rfl (Nat.le_of_ble_eq_true rfl) (Nat.le_of_ble_eq_true rfl) ?_
    simp [onU, c_6]
def adU (u : PU) (s g k : Int32) : PU := if pN u < 0 then u else if 5 ≤ pN u then u else (upd (pSo u) (pN u).toNatClampNeg s, upd (pAg u) (pN u).toNatClampNeg g, upd (pKd u) (pN u).toNatClampNeg k, u.2.2.2.1, u.2.2.2.2.1, pN u + 1, u.2.2.2.2.2.2)
set_option maxRecDepth 20000 in
theorem fn_add {G : kx_G} {d N a : Nat} {h : kx_H} {u : PU} {s g k : Int32} (hP : kP h a u) : kx_Fn mX2_add d 0 0 G [.ref a, .int s, .int g, .int k] N h (none, N, kp_put h a (adU u s g k)) := by
  refine kx_Fn_of rfl (Nat.le_of_ble_eq_true rfl) rfl ?_ (kp_dom hP)
  refine ko_h (kp_put_same hP).symm ?_
  refine ko_aload_n (i := 0) dX2_add_0 rfl rfl ?_
  refine ko_get fl_X2_33 dX2_add_1 (kp_put_P _ _ _).1 rfl ?_
  refine ko_if_lt (tgt := 55) dX2_add_4 (by decide) (fun c_4 => ?_) (fun c_4 => ?_)
  · refine ko_vret dX2_add_55 rfl (Nat.le_of_ble_eq_true rfl) (Nat.le_of_ble_eq_true rfl) ?_
    simp [adU, c_4]
  · refine ko_aload_n (i := 0) dX2_add_7 rfl rfl ?_
    refine ko_get fl_X2_33 dX2_add_8 (kp_put_P _ _ _).1 rfl ?_
    refine ko_iconst (v := 5) dX2_add_11 (by decide) ?_
    refine ko_icmp_ge (tgt := 55) dX2_add_12 (by decide) (fun c_12 => ?_) (fun c_12 => ?_)
    · refine ko_vret dX2_add_55 rfl (Nat.le_of_ble_eq_true rfl) (Nat.le_of_ble_eq_true rfl) ?_
      simp [adU, c_4, c_12]
    · refine ko_aload_n (i := 0) dX2_add_15 rfl rfl ?_
      refine ko_get fl_X2_9 dX2_add_16 (kp_put_P _ _ _).1 rfl ?_
      refine ko_aload_n (i := 0) dX2_add_19 rfl rfl ?_
      refine ko_get fl_X2_33 dX2_add_20 (kp_put_P _ _ _).1 rfl ?_
      refine ko_iload_n (i := 1) dX2_add_23 rfl rfl ?_
      first | refine ko_iast dX2_add_24 (kp_put_P _ _ _).2.1 (in5 c_4 c_12) ?_ | refine ko_iast dX2_add_24 (kp_put_P _ _ _).2.2.1 (in5 c_4 c_12) ?_ | refine ko_iast dX2_add_24 (kp_put_P _ _ _).2.2.2.1 (in5 c_4 c_12) ?_ | refine ko_iast dX2_add_24 (kp_put_P _ _ _).2.2.2.2.1 (in5 c_4 c_12) ?_ | refine ko_iast dX2_add_24 (kp_put_P _ _ _).2.2.2.2.2 (in5 c_4 c_12) ?_
      refine ko_h kq_1 ?_
      refine ko_aload_n (i := 0) dX2_add_25 rfl rfl ?_
      refine ko_get fl_X2_15 dX2_add_26 (kp_put_P _ _ _).1 rfl ?_
      refine ko_aload_n (i := 0) dX2_add_29 rfl rfl ?_
      refine ko_get fl_X2_33 dX2_add_30 (kp_put_P _ _ _).1 rfl ?_
      refine ko_iload_n (i := 2) dX2_add_33 rfl rfl ?_
      first | refine ko_iast dX2_add_34 (kp_put_P _ _ _).2.1 (in5 c_4 c_12) ?_ | refine ko_iast dX2_add_34 (kp_put_P _ _ _).2.2.1 (in5 c_4 c_12) ?_ | refine ko_iast dX2_add_34 (kp_put_P _ _ _).2.2.2.1 (in5 c_4 c_12) ?_ | refine ko_iast dX2_add_34 (kp_put_P _ _ _).2.2.2.2.1 (in5 c_4 c_12) ?_ | refine ko_iast dX2_add_34 (kp_put_P _ _ _).2.2.2.2.2 (in5 c_4 c_12) ?_
      refine ko_h kq_2 ?_
      refine ko_aload_n (i := 0) dX2_add_35 rfl rfl ?_
      refine ko_get fl_X2_18 dX2_add_36 (kp_put_P _ _ _).1 rfl ?_
      refine ko_aload_n (i := 0) dX2_add_39 rfl rfl ?_
      refine ko_get fl_X2_33 dX2_add_40 (kp_put_P _ _ _).1 rfl ?_
      refine ko_iload_n (i := 3) dX2_add_43 rfl rfl ?_
      first | refine ko_iast dX2_add_44 (kp_put_P _ _ _).2.1 (in5 c_4 c_12) ?_ | refine ko_iast dX2_add_44 (kp_put_P _ _ _).2.2.1 (in5 c_4 c_12) ?_ | refine ko_iast dX2_add_44 (kp_put_P _ _ _).2.2.2.1 (in5 c_4 c_12) ?_ | refine ko_iast dX2_add_44 (kp_put_P _ _ _).2.2.2.2.1 (in5 c_4 c_12) ?_ | refine ko_iast dX2_add_44 (kp_put_P _ _ _).2.2.2.2.2 (in5 c_4 c_12) ?_
      refine ko_h kq_3 ?_
      refine ko_aload_n (i := 0) dX2_add_45 rfl rfl ?_
      refine ko_dup dX2_add_46 rfl ?_
      refine ko_get fl_X2_33 dX2_add_47 (kp_put_P _ _ _).1 rfl ?_
      refine ko_iconst (v := 1) dX2_add_50 (by decide) ?_
      refine ko_iadd dX2_add_51 ?_
      refine ko_put fl_X2_33 dX2_add_52 (kp_put_P _ _ _).1 rfl rfl (Nat.le_of_ble_eq_true rfl) ?_
      refine ko_h kq_n ?_
      refine ko_vret dX2_add_55 rfl (Nat.le_of_ble_eq_true rfl) (Nat.le_of_ble_eq_true rfl) ?_
      simp [adU, c_4, c_12]
theorem kp_put_other {h : kx_H} {a b : Nat} {u v : PU} (hQ : kP h b v) (hab : a + 5 < b ∨ b + 5 < a) : kP (kp_put h a u) b v := by
  obtain ⟨e0, e1, e2, e3, e4, e5⟩ := hQ
  exact ⟨by rw [kp_put_out (by omega)]; exact e0, by rw [kp_put_out (by omega)]; exact e1, by rw [kp_put_out (by omega)]; exact e2, by rw [kp_put_out (by omega)]; exact e3, by rw [kp_put_out (by omega)]; exact e4, by rw [kp_put_out (by omega)]; exact e5⟩
set_option maxRecDepth 20000 in
theorem fn_copyFrom {G : kx_G} {d N a b : Nat} {h : kx_H} {u v : PU} (hP : kP h a u) (hQ : kP h b v) (hab : a + 5 < b ∨ b + 5 < a) (hd : 1 ≤ d) : kx_Fn mX2_copyFrom d 0 0 G [.ref a, .ref b] N h (none, N, kp_put h a v) := by
  refine kx_Fn_of rfl (Nat.le_of_ble_eq_true rfl) rfl ?_ (kp_dom hP)
  refine ko_h (kp_put_same hP).symm ?_
  have hQ1 : ∀ x, kP (kp_put h a x) b v := fun x => kp_put_other hQ hab
  refine ko_aload_n (i := 1) dX2_copyFrom_0 rfl rfl ?_
  first | refine ko_get fl_X2_9 dX2_copyFrom_1 (kp_put_P _ _ _).1 rfl ?_ | refine ko_get fl_X2_9 dX2_copyFrom_1 (hQ1 _).1 rfl ?_
  refine ko_iconst (v := 0) dX2_copyFrom_4 (by decide) ?_
  refine ko_aload_n (i := 0) dX2_copyFrom_5 rfl rfl ?_
  first | refine ko_get fl_X2_9 dX2_copyFrom_6 (kp_put_P _ _ _).1 rfl ?_ | refine ko_get fl_X2_9 dX2_copyFrom_6 (hQ1 _).1 rfl ?_
  refine ko_iconst (v := 0) dX2_copyFrom_9 (by decide) ?_
  refine ko_iconst (v := 5) dX2_copyFrom_10 (by decide) ?_
  refine ko_copy (L := 5) wx_X2_27 dX2_copyFrom_11 (hQ1 _).2.1 (kp_put_P _ _ _).2.1 (by decide) rfl (by omega) (Nat.le_of_ble_eq_true rfl) ?_
  refine ko_h kq_1 ?_
  refine ko_aload_n (i := 1) dX2_copyFrom_14 rfl rfl ?_
  first | refine ko_get fl_X2_15 dX2_copyFrom_15 (kp_put_P _ _ _).1 rfl ?_ | refine ko_get fl_X2_15 dX2_copyFrom_15 (hQ1 _).1 rfl ?_
  refine ko_iconst (v := 0) dX2_copyFrom_18 (by decide) ?_
  refine ko_aload_n (i := 0) dX2_copyFrom_19 rfl rfl ?_
  first | refine ko_get fl_X2_15 dX2_copyFrom_20 (kp_put_P _ _ _).1 rfl ?_ | refine ko_get fl_X2_15 dX2_copyFrom_20 (hQ1 _).1 rfl ?_
  refine ko_iconst (v := 0) dX2_copyFrom_23 (by decide) ?_
  refine ko_iconst (v := 5) dX2_copyFrom_24 (by decide) ?_
  refine ko_copy (L := 5) wx_X2_27 dX2_copyFrom_25 (hQ1 _).2.2.1 (kp_put_P _ _ _).2.2.1 (by decide) rfl (by omega) (Nat.le_of_ble_eq_true rfl) ?_
  refine ko_h kq_2 ?_
  refine ko_aload_n (i := 1) dX2_copyFrom_28 rfl rfl ?_
  first | refine ko_get fl_X2_18 dX2_copyFrom_29 (kp_put_P _ _ _).1 rfl ?_ | refine ko_get fl_X2_18 dX2_copyFrom_29 (hQ1 _).1 rfl ?_
  refine ko_iconst (v := 0) dX2_copyFrom_32 (by decide) ?_
  refine ko_aload_n (i := 0) dX2_copyFrom_33 rfl rfl ?_
  first | refine ko_get fl_X2_18 dX2_copyFrom_34 (kp_put_P _ _ _).1 rfl ?_ | refine ko_get fl_X2_18 dX2_copyFrom_34 (hQ1 _).1 rfl ?_
  refine ko_iconst (v := 0) dX2_copyFrom_37 (by decide) ?_
  refine ko_iconst (v := 5) dX2_copyFrom_38 (by decide) ?_
  refine ko_copy (L := 5) wx_X2_27 dX2_copyFrom_39 (hQ1 _).2.2.2.1 (kp_put_P _ _ _).2.2.2.1 (by decide) rfl (by omega) (Nat.le_of_ble_eq_true rfl) ?_
  refine ko_h kq_3 ?_
  refine ko_aload_n (i := 1) dX2_copyFrom_42 rfl rfl ?_
  first | refine ko_get fl_X2_21 dX2_copyFrom_43 (kp_put_P _ _ _).1 rfl ?_ | refine ko_get fl_X2_21 dX2_copyFrom_43 (hQ1 _).1 rfl ?_
  refine ko_iconst (v := 0) dX2_copyFrom_46 (by decide) ?_
  refine ko_aload_n (i := 0) dX2_copyFrom_47 rfl rfl ?_
  first | refine ko_get fl_X2_21 dX2_copyFrom_48 (kp_put_P _ _ _).1 rfl ?_ | refine ko_get fl_X2_21 dX2_copyFrom_48 (hQ1 _).1 rfl ?_
  refine ko_iconst (v := 0) dX2_copyFrom_51 (by decide) ?_
  refine ko_iconst (v := 5) dX2_copyFrom_52 (by decide) ?_
  refine ko_copy (L := 5) wx_X2_27 dX2_copyFrom_53 (hQ1 _).2.2.2.2.1 (kp_put_P _ _ _).2.2.2.2.1 (by decide) rfl (by omega) (Nat.le_of_ble_eq_true rfl) ?_
  refine ko_h kq_4 ?_
  refine ko_aload_n (i := 1) dX2_copyFrom_56 rfl rfl ?_
  first | refine ko_get fl_X2_24 dX2_copyFrom_57 (kp_put_P _ _ _).1 rfl ?_ | refine ko_get fl_X2_24 dX2_copyFrom_57 (hQ1 _).1 rfl ?_
  refine ko_iconst (v := 0) dX2_copyFrom_60 (by decide) ?_
  refine ko_aload_n (i := 0) dX2_copyFrom_61 rfl rfl ?_
  first | refine ko_get fl_X2_24 dX2_copyFrom_62 (kp_put_P _ _ _).1 rfl ?_ | refine ko_get fl_X2_24 dX2_copyFrom_62 (hQ1 _).1 rfl ?_
  refine ko_iconst (v := 0) dX2_copyFrom_65 (by decide) ?_
  refine ko_bipush (v := 25) dX2_copyFrom_66 (by decide) ?_
  refine ko_copy (L := 25) wx_X2_27 dX2_copyFrom_68 (hQ1 _).2.2.2.2.2 (kp_put_P _ _ _).2.2.2.2.2 (by decide) rfl (by omega) (Nat.le_of_ble_eq_true rfl) ?_
  refine ko_h kq_5 ?_
  refine ko_aload_n (i := 0) dX2_copyFrom_71 rfl rfl ?_
  refine ko_aload_n (i := 1) dX2_copyFrom_72 rfl rfl ?_
  first | refine ko_get fl_X2_33 dX2_copyFrom_73 (kp_put_P _ _ _).1 rfl ?_ | refine ko_get fl_X2_33 dX2_copyFrom_73 (hQ1 _).1 rfl ?_
  refine ko_put fl_X2_33 dX2_copyFrom_76 (kp_put_P _ _ _).1 rfl rfl (Nat.le_of_ble_eq_true rfl) ?_
  refine ko_h kq_n ?_
  refine ko_aload_n (i := 0) dX2_copyFrom_79 rfl rfl ?_
  refine ko_aload_n (i := 1) dX2_copyFrom_80 rfl rfl ?_
  first | refine ko_get fl_X2_37 dX2_copyFrom_81 (kp_put_P _ _ _).1 rfl ?_ | refine ko_get fl_X2_37 dX2_copyFrom_81 (hQ1 _).1 rfl ?_
  refine ko_put fl_X2_37 dX2_copyFrom_84 (kp_put_P _ _ _).1 rfl rfl (Nat.le_of_ble_eq_true rfl) ?_
  refine ko_h kq_op ?_
  refine ko_aload_n (i := 0) dX2_copyFrom_87 rfl rfl ?_
  refine ko_aload_n (i := 1) dX2_copyFrom_88 rfl rfl ?_
  first | refine ko_get fl_X2_40 dX2_copyFrom_89 (kp_put_P _ _ _).1 rfl ?_ | refine ko_get fl_X2_40 dX2_copyFrom_89 (hQ1 _).1 rfl ?_
  refine ko_put fl_X2_40 dX2_copyFrom_92 (kp_put_P _ _ _).1 rfl rfl (Nat.le_of_ble_eq_true rfl) ?_
  refine ko_h kq_on ?_
  refine ko_aload_n (i := 0) dX2_copyFrom_95 rfl rfl ?_
  refine ko_aload_n (i := 1) dX2_copyFrom_96 rfl rfl ?_
  first | refine ko_get fl_X2_43 dX2_copyFrom_97 (kp_put_P _ _ _).1 rfl ?_ | refine ko_get fl_X2_43 dX2_copyFrom_97 (hQ1 _).1 rfl ?_
  refine ko_put fl_X2_43 dX2_copyFrom_100 (kp_put_P _ _ _).1 rfl rfl (Nat.le_of_ble_eq_true rfl) ?_
  refine ko_h kq_wk ?_
  refine ko_vret dX2_copyFrom_103 rfl (Nat.le_of_ble_eq_true rfl) (Nat.le_of_ble_eq_true rfl) ?_
  rfl
def wkA (x : Int32) : Int32 := if x + 1 < 99 then x + 1 else 99
def wkS (g s : Int32) : Int32 := if g < 3 then s else if 0 < s - 1 then s - 1 else 0
def wkU (u : PU) (i : Nat) : PU := (upd (pSo u) i (wkS (wkA (pAg u i)) (pSo u i)), upd (pAg u) i (wkA (pAg u i)), u.2.2)
def wkN (u : PU) : Nat → PU
  | 0 => u
  | i + 1 => wkU (wkN u i) i
theorem wkN_2 (u : PU) : ∀ i, (wkN u i).2.2 = u.2.2
  | 0 => rfl
  | i + 1 => wkN_2 u i
def pwU (u : PU) (m : Nat) : PU := ((wkN u m).1, (wkN u m).2.1, (wkN u m).2.2.1, (wkN u m).2.2.2.1, (wkN u m).2.2.2.2.1, (wkN u m).2.2.2.2.2.1, (wkN u m).2.2.2.2.2.2.1, (wkN u m).2.2.2.2.2.2.2.1, pWk (wkN u m) + 1)
theorem upd_same (f : Nat → Int32) (i : Nat) : upd f i (f i) = f := by
  funext j
  unfold upd
  by_cases hj : j = i
  · rw [if_pos hj, hj]
  · rw [if_neg hj]
theorem upd_at (f : Nat → Int32) (i : Nat) (x : Int32) : upd f i x i = x := if_pos rfl
set_option maxRecDepth 20000 in
theorem fn_passWeek {G : kx_G} {d N a : Nat} {h : kx_H} {u : PU} {m : Nat} (hP : kP h a u) (hn : pN u = nI m) (hm : m ≤ 5) (hd : 1 ≤ d) : kx_Fn mX2_passWeek d 0 0 G [.ref a] N h (none, N, kp_put h a (pwU u m)) := by
  refine kx_Fn_of rfl (Nat.le_of_ble_eq_true rfl) rfl ?_ (kp_dom hP)
  refine ko_h (kp_put_same hP).symm ?_
  have hn2 : ∀ i, pN (wkN u i) = nI m := fun i => (congrArg (fun x => x.2.2.2.1) (wkN_2 u i)).trans hn
  have LOOP : ∀ (k i : Nat), k + i = m → kx_Ok mX2_passWeek d 0 0 G 0 0 2 [(0, .ref a), (1, .int (nI i))] [] N (kp_put h a (wkN u i)) (none, N, kp_put h a (pwU u m)) := by
    intro k
    induction k with
    | zero =>
      intro i hi
      obtain rfl : m = i := by omega
      refine ko_iload_n (i := 1) dX2_passWeek_2 rfl rfl ?_
      refine ko_aload_n (i := 0) dX2_passWeek_3 rfl rfl ?_
      refine ko_get fl_X2_33 dX2_passWeek_4 (kp_put_P _ _ _).1 rfl ?_
      refine ko_icmp_ge (tgt := 68) dX2_passWeek_7 (by decide) (fun c_7 => ?_) (fun c_7 => ?_)
      · refine ko_aload_n (i := 0) dX2_passWeek_68 rfl rfl ?_
        refine ko_dup dX2_passWeek_69 rfl ?_
        refine ko_get fl_X2_43 dX2_passWeek_70 (kp_put_P _ _ _).1 rfl ?_
        refine ko_iconst (v := 1) dX2_passWeek_73 (by decide) ?_
        refine ko_iadd dX2_passWeek_74 ?_
        refine ko_put fl_X2_43 dX2_passWeek_75 (kp_put_P _ _ _).1 rfl rfl (Nat.le_of_ble_eq_true rfl) ?_
        refine ko_h kq_wk ?_
        refine ko_vret dX2_passWeek_78 rfl (Nat.le_of_ble_eq_true rfl) (Nat.le_of_ble_eq_true rfl) ?_
        rfl
      · exact absurd (show pN (wkN u m) ≤ nI m by rw [hn2 _]; exact nI_le (Nat.le_refl _) (by omega)) c_7
    | succ k ih =>
      intro i hi
      refine ko_iload_n (i := 1) dX2_passWeek_2 rfl rfl ?_
      refine ko_aload_n (i := 0) dX2_passWeek_3 rfl rfl ?_
      refine ko_get fl_X2_33 dX2_passWeek_4 (kp_put_P _ _ _).1 rfl ?_
      refine ko_icmp_ge (tgt := 68) dX2_passWeek_7 (by decide) (fun c_7 => ?_) (fun c_7 => ?_)
      · exact absurd (show nI m ≤ nI i from by rw [← hn2 _]; exact c_7) (nI_ge (by omega) (by omega))
      · refine ko_iload_n (i := 1) dX2_passWeek_10 rfl rfl ?_
        refine ko_iconst (v := 5) dX2_passWeek_11 (by decide) ?_
        refine ko_icmp_ge (tgt := 68) dX2_passWeek_12 (by decide) (fun c_12 => ?_) (fun c_12 => ?_)
        · exact absurd (show nI 5 ≤ nI i from c_12) (nI_ge (by omega) (by omega))
        · refine ko_aload_n (i := 0) dX2_passWeek_15 rfl rfl ?_
          refine ko_get fl_X2_15 dX2_passWeek_16 (kp_put_P _ _ _).1 rfl ?_
          refine ko_iload_n (i := 1) dX2_passWeek_19 rfl rfl ?_
          refine ko_bipush (v := 99) dX2_passWeek_20 (by decide) ?_
          refine ko_aload_n (i := 0) dX2_passWeek_22 rfl rfl ?_
          refine ko_get fl_X2_15 dX2_passWeek_23 (kp_put_P _ _ _).1 rfl ?_
          refine ko_iload_n (i := 1) dX2_passWeek_26 rfl rfl ?_
          first | refine ko_iald dX2_passWeek_27 (kp_put_P _ _ _).2.1 (ix5 (by omega)) ?_ | refine ko_iald dX2_passWeek_27 (kp_put_P _ _ _).2.2.1 (ix5 (by omega)) ?_
          rw [nI_clamp (by omega)]
          refine ko_iconst (v := 1) dX2_passWeek_28 (by decide) ?_
          refine ko_iadd dX2_passWeek_29 ?_
          refine ko_mmin lm_X2_94 dX2_passWeek_30 (by omega) (Nat.le_of_ble_eq_true rfl) (Nat.le_of_ble_eq_true rfl) (Nat.le_of_ble_eq_true rfl) ?_
          first | refine ko_iast dX2_passWeek_33 (kp_put_P _ _ _).2.1 (ix5 (by omega)) ?_ | refine ko_iast dX2_passWeek_33 (kp_put_P _ _ _).2.2.1 (ix5 (by omega)) ?_
          rw [nI_clamp (by omega)]
          refine ko_h kq_2 ?_
          refine ko_aload_n (i := 0) dX2_passWeek_34 rfl rfl ?_
          refine ko_get fl_X2_15 dX2_passWeek_35 (kp_put_P _ _ _).1 rfl ?_
          refine ko_iload_n (i := 1) dX2_passWeek_38 rfl rfl ?_
          first | refine ko_iald dX2_passWeek_39 (kp_put_P _ _ _).2.1 (ix5 (by omega)) ?_ | refine ko_iald dX2_passWeek_39 (kp_put_P _ _ _).2.2.1 (ix5 (by omega)) ?_
          rw [nI_clamp (by omega)]
          rw [show ∀ (f g : Nat → Int32) (w : _), pAg (f, g, w) = g from fun _ _ _ => rfl, upd_at]
          refine ko_iconst (v := 3) dX2_passWeek_40 (by decide) ?_
          refine ko_icmp_lt (tgt := 62) dX2_passWeek_41 (by decide) (fun c_41 => ?_) (fun c_41 => ?_)
          · refine ko_inc1 (i := 1) (lv' := [(0, _), (1, _)]) dX2_passWeek_62 rfl (by decide) rfl rfl rfl ?_
            refine ko_goto (tgt := 2) dX2_passWeek_65 (by decide) ?_
            refine ko_h (h' := kp_put h a (wkN u (i + 1))) (congrArg (kp_put h a) ?_) (ko_lv (by simp [nI_succ]) (ih (i + 1) (by omega)))
            show _ = wkU (wkN u i) i
            unfold wkU wkS wkA
            first | rw [if_pos c_41, upd_same] | rw [if_neg (Int32.not_lt.mpr c_41)] | rw [if_neg c_41]
          · refine ko_aload_n (i := 0) dX2_passWeek_44 rfl rfl ?_
            refine ko_get fl_X2_9 dX2_passWeek_45 (kp_put_P _ _ _).1 rfl ?_
            refine ko_iload_n (i := 1) dX2_passWeek_48 rfl rfl ?_
            refine ko_iconst (v := 0) dX2_passWeek_49 (by decide) ?_
            refine ko_aload_n (i := 0) dX2_passWeek_50 rfl rfl ?_
            refine ko_get fl_X2_9 dX2_passWeek_51 (kp_put_P _ _ _).1 rfl ?_
            refine ko_iload_n (i := 1) dX2_passWeek_54 rfl rfl ?_
            first | refine ko_iald dX2_passWeek_55 (kp_put_P _ _ _).2.1 (ix5 (by omega)) ?_ | refine ko_iald dX2_passWeek_55 (kp_put_P _ _ _).2.2.1 (ix5 (by omega)) ?_
            rw [nI_clamp (by omega)]
            refine ko_iconst (v := 1) dX2_passWeek_56 (by decide) ?_
            refine ko_isub dX2_passWeek_57 ?_
            refine ko_mmax lm_X2_99 dX2_passWeek_58 (by omega) (Nat.le_of_ble_eq_true rfl) (Nat.le_of_ble_eq_true rfl) (Nat.le_of_ble_eq_true rfl) ?_
            first | refine ko_iast dX2_passWeek_61 (kp_put_P _ _ _).2.1 (ix5 (by omega)) ?_ | refine ko_iast dX2_passWeek_61 (kp_put_P _ _ _).2.2.1 (ix5 (by omega)) ?_
            rw [nI_clamp (by omega)]
            refine ko_h kq_1 ?_
            refine ko_inc1 (i := 1) (lv' := [(0, _), (1, _)]) dX2_passWeek_62 rfl (by decide) rfl rfl rfl ?_
            refine ko_goto (tgt := 2) dX2_passWeek_65 (by decide) ?_
            refine ko_h (h' := kp_put h a (wkN u (i + 1))) (congrArg (kp_put h a) ?_) (ko_lv (by simp [nI_succ]) (ih (i + 1) (by omega)))
            show _ = wkU (wkN u i) i
            unfold wkU wkS wkA
            first | rw [if_pos c_41, upd_same] | rw [if_neg (Int32.not_lt.mpr c_41)] | rw [if_neg c_41]
  refine ko_iconst (v := 0) dX2_passWeek_0 (by decide) ?_
  refine ko_istore_n (i := 1) (lv' := [(0, _), (1, _)]) dX2_passWeek_1 rfl (by decide) rfl rfl rfl ?_
  exact LOOP m 0 (by omega)
def zf (k : Nat) (f : Nat → Int32) : Nat → Int32 := fun j => if j < k then 0 else f j
theorem zf_0 (f : Nat → Int32) : zf 0 f = f := by
  funext j
  unfold zf
  rw [if_neg (Nat.not_lt_zero j)]
theorem zf_s (k : Nat) (f : Nat → Int32) : upd (zf k f) k 0 = zf (k + 1) f := by
  funext j
  unfold upd zf
  by_cases h1 : j = k
  · rw [if_pos h1, if_pos (by omega)]
  · rw [if_neg h1]
    by_cases h2 : j < k
    · rw [if_pos h2, if_pos (by omega)]
    · rw [if_neg h2, if_neg (by omega)]
def pZ : PU := (fun _ => 0, fun _ => 0, fun _ => 0, fun _ => 0, fun _ => 0, 0, 0, 0, 0)
theorem ix25 {i : Nat} (h : i < 25) : vp_in (nI i) 25 := vp_in_nI h (by omega)
set_option maxRecDepth 20000 in
theorem fn_clear {G : kx_G} {d N a : Nat} {h : kx_H} {u : PU} (hP : kP h a u) : kx_Fn mX2_clear d 0 0 G [.ref a] N h (none, N, kp_put h a pZ) := by
  refine kx_Fn_of rfl (Nat.le_of_ble_eq_true rfl) rfl ?_ (kp_dom hP)
  refine ko_h (kp_put_same hP).symm ?_
  have LOOQ : ∀ (k i : Nat), k + i = 25 → kx_Ok mX2_clear d 0 0 G 0 0 43 [(0, .ref a), (1, .int (nI i))] [] N (kp_put h a (zf 5 (pSo u), zf 5 (pAg u), zf 5 (pKd u), zf 5 (pKn u), zf i (pOw u), u.2.2.2.2.2)) (none, N, kp_put h a pZ) := by
    intro k
    induction k with
    | zero =>
      intro i hi
      obtain rfl : i = 25 := by omega
      refine ko_iload_n (i := 1) dX2_clear_43 rfl rfl ?_
      refine ko_bipush (v := 25) dX2_clear_44 (by decide) ?_
      refine ko_icmp_ge (tgt := 62) dX2_clear_46 (by decide) (fun c_46 => ?_) (fun c_46 => ?_)
      · refine ko_arr (fun _ => 0) (kp_put_P _ _ _).2.1 (fun j hj => if_pos hj) ?_
        refine ko_h kq_1 ?_
        refine ko_arr (fun _ => 0) (kp_put_P _ _ _).2.2.1 (fun j hj => if_pos hj) ?_
        refine ko_h kq_2 ?_
        refine ko_arr (fun _ => 0) (kp_put_P _ _ _).2.2.2.1 (fun j hj => if_pos hj) ?_
        refine ko_h kq_3 ?_
        refine ko_arr (fun _ => 0) (kp_put_P _ _ _).2.2.2.2.1 (fun j hj => if_pos hj) ?_
        refine ko_h kq_4 ?_
        refine ko_arr (fun _ => 0) (kp_put_P _ _ _).2.2.2.2.2 (fun j hj => if_pos hj) ?_
        refine ko_h kq_5 ?_
        refine ko_aload_n (i := 0) dX2_clear_62 rfl rfl ?_
        refine ko_iconst (v := 0) dX2_clear_63 (by decide) ?_
        refine ko_put fl_X2_33 dX2_clear_64 (kp_put_P _ _ _).1 rfl rfl (Nat.le_of_ble_eq_true rfl) ?_
        refine ko_h kq_n ?_
        refine ko_aload_n (i := 0) dX2_clear_67 rfl rfl ?_
        refine ko_iconst (v := 0) dX2_clear_68 (by decide) ?_
        refine ko_put fl_X2_37 dX2_clear_69 (kp_put_P _ _ _).1 rfl rfl (Nat.le_of_ble_eq_true rfl) ?_
        refine ko_h kq_op ?_
        refine ko_aload_n (i := 0) dX2_clear_72 rfl rfl ?_
        refine ko_iconst (v := 0) dX2_clear_73 (by decide) ?_
        refine ko_put fl_X2_40 dX2_clear_74 (kp_put_P _ _ _).1 rfl rfl (Nat.le_of_ble_eq_true rfl) ?_
        refine ko_h kq_on ?_
        refine ko_aload_n (i := 0) dX2_clear_77 rfl rfl ?_
        refine ko_iconst (v := 0) dX2_clear_78 (by decide) ?_
        refine ko_put fl_X2_43 dX2_clear_79 (kp_put_P _ _ _).1 rfl rfl (Nat.le_of_ble_eq_true rfl) ?_
        refine ko_h kq_wk ?_
        refine ko_vret dX2_clear_82 rfl (Nat.le_of_ble_eq_true rfl) (Nat.le_of_ble_eq_true rfl) ?_
        rfl
      · exact absurd (show (25 : Int32) ≤ nI 25 by decide) c_46
    | succ k ih =>
      intro i hi
      refine ko_iload_n (i := 1) dX2_clear_43 rfl rfl ?_
      refine ko_bipush (v := 25) dX2_clear_44 (by decide) ?_
      refine ko_icmp_ge (tgt := 62) dX2_clear_46 (by decide) (fun c_46 => ?_) (fun c_46 => ?_)
      · exact absurd (show nI 25 ≤ nI i from c_46) (nI_ge (by omega) (by omega))
      · refine ko_aload_n (i := 0) dX2_clear_49 rfl rfl ?_
        refine ko_get fl_X2_24 dX2_clear_50 (kp_put_P _ _ _).1 rfl ?_
        refine ko_iload_n (i := 1) dX2_clear_53 rfl rfl ?_
        refine ko_iconst (v := 0) dX2_clear_54 (by decide) ?_
        first | refine ko_iast dX2_clear_55 (kp_put_P _ _ _).2.1 (ix25 (by omega)) ?_ | refine ko_iast dX2_clear_55 (kp_put_P _ _ _).2.2.1 (ix25 (by omega)) ?_ | refine ko_iast dX2_clear_55 (kp_put_P _ _ _).2.2.2.1 (ix25 (by omega)) ?_ | refine ko_iast dX2_clear_55 (kp_put_P _ _ _).2.2.2.2.1 (ix25 (by omega)) ?_ | refine ko_iast dX2_clear_55 (kp_put_P _ _ _).2.2.2.2.2 (ix25 (by omega)) ?_
        rw [nI_clamp (by omega), zf_s]
        refine ko_h kq_5 ?_
        refine ko_inc1 (i := 1) (lv' := [(0, _), (1, _)]) dX2_clear_56 rfl (by decide) rfl rfl rfl ?_
        refine ko_goto (tgt := 43) dX2_clear_59 (by decide) ?_
        exact ko_lv (by simp [nI_succ]) (ih (i + 1) (by omega))
  have LOOP : ∀ (k i : Nat), k + i = 5 → kx_Ok mX2_clear d 0 0 G 0 0 2 [(0, .ref a), (1, .int (nI i))] [] N (kp_put h a (zf i (pSo u), zf i (pAg u), zf i (pKd u), zf i (pKn u), u.2.2.2.2)) (none, N, kp_put h a pZ) := by
    intro k
    induction k with
    | zero =>
      intro i hi
      obtain rfl : i = 5 := by omega
      refine ko_iload_n (i := 1) dX2_clear_2 rfl rfl ?_
      refine ko_iconst (v := 5) dX2_clear_3 (by decide) ?_
      refine ko_icmp_ge (tgt := 41) dX2_clear_4 (by decide) (fun c_4 => ?_) (fun c_4 => ?_)
      · refine ko_iconst (v := 0) dX2_clear_41 (by decide) ?_
        refine ko_istore_n (i := 1) (lv' := [(0, _), (1, _)]) dX2_clear_42 rfl (by decide) rfl rfl rfl ?_
        exact ko_h (by rw [zf_0]) (LOOQ 25 0 rfl)
      · exact absurd (show (5 : Int32) ≤ nI 5 by decide) c_4
    | succ k ih =>
      intro i hi
      refine ko_iload_n (i := 1) dX2_clear_2 rfl rfl ?_
      refine ko_iconst (v := 5) dX2_clear_3 (by decide) ?_
      refine ko_icmp_ge (tgt := 41) dX2_clear_4 (by decide) (fun c_4 => ?_) (fun c_4 => ?_)
      · exact absurd (show nI 5 ≤ nI i from c_4) (nI_ge (by omega) (by omega))
      · refine ko_aload_n (i := 0) dX2_clear_7 rfl rfl ?_
        refine ko_get fl_X2_9 dX2_clear_8 (kp_put_P _ _ _).1 rfl ?_
        refine ko_iload_n (i := 1) dX2_clear_11 rfl rfl ?_
        refine ko_iconst (v := 0) dX2_clear_12 (by decide) ?_
        first | refine ko_iast dX2_clear_13 (kp_put_P _ _ _).2.1 (ix5 (by omega)) ?_ | refine ko_iast dX2_clear_13 (kp_put_P _ _ _).2.2.1 (ix5 (by omega)) ?_ | refine ko_iast dX2_clear_13 (kp_put_P _ _ _).2.2.2.1 (ix5 (by omega)) ?_ | refine ko_iast dX2_clear_13 (kp_put_P _ _ _).2.2.2.2.1 (ix5 (by omega)) ?_ | refine ko_iast dX2_clear_13 (kp_put_P _ _ _).2.2.2.2.2 (ix5 (by omega)) ?_
        rw [nI_clamp (by omega), zf_s]
        refine ko_h kq_1 ?_
        refine ko_aload_n (i := 0) dX2_clear_14 rfl rfl ?_
        refine ko_get fl_X2_15 dX2_clear_15 (kp_put_P _ _ _).1 rfl ?_
        refine ko_iload_n (i := 1) dX2_clear_18 rfl rfl ?_
        refine ko_iconst (v := 0) dX2_clear_19 (by decide) ?_
        first | refine ko_iast dX2_clear_20 (kp_put_P _ _ _).2.1 (ix5 (by omega)) ?_ | refine ko_iast dX2_clear_20 (kp_put_P _ _ _).2.2.1 (ix5 (by omega)) ?_ | refine ko_iast dX2_clear_20 (kp_put_P _ _ _).2.2.2.1 (ix5 (by omega)) ?_ | refine ko_iast dX2_clear_20 (kp_put_P _ _ _).2.2.2.2.1 (ix5 (by omega)) ?_ | refine ko_iast dX2_clear_20 (kp_put_P _ _ _).2.2.2.2.2 (ix5 (by omega)) ?_
        rw [nI_clamp (by omega), zf_s]
        refine ko_h kq_2 ?_
        refine ko_aload_n (i := 0) dX2_clear_21 rfl rfl ?_
        refine ko_get fl_X2_18 dX2_clear_22 (kp_put_P _ _ _).1 rfl ?_
        refine ko_iload_n (i := 1) dX2_clear_25 rfl rfl ?_
        refine ko_iconst (v := 0) dX2_clear_26 (by decide) ?_
        first | refine ko_iast dX2_clear_27 (kp_put_P _ _ _).2.1 (ix5 (by omega)) ?_ | refine ko_iast dX2_clear_27 (kp_put_P _ _ _).2.2.1 (ix5 (by omega)) ?_ | refine ko_iast dX2_clear_27 (kp_put_P _ _ _).2.2.2.1 (ix5 (by omega)) ?_ | refine ko_iast dX2_clear_27 (kp_put_P _ _ _).2.2.2.2.1 (ix5 (by omega)) ?_ | refine ko_iast dX2_clear_27 (kp_put_P _ _ _).2.2.2.2.2 (ix5 (by omega)) ?_
        rw [nI_clamp (by omega), zf_s]
        refine ko_h kq_3 ?_
        refine ko_aload_n (i := 0) dX2_clear_28 rfl rfl ?_
        refine ko_get fl_X2_21 dX2_clear_29 (kp_put_P _ _ _).1 rfl ?_
        refine ko_iload_n (i := 1) dX2_clear_32 rfl rfl ?_
        refine ko_iconst (v := 0) dX2_clear_33 (by decide) ?_
        first | refine ko_iast dX2_clear_34 (kp_put_P _ _ _).2.1 (ix5 (by omega)) ?_ | refine ko_iast dX2_clear_34 (kp_put_P _ _ _).2.2.1 (ix5 (by omega)) ?_ | refine ko_iast dX2_clear_34 (kp_put_P _ _ _).2.2.2.1 (ix5 (by omega)) ?_ | refine ko_iast dX2_clear_34 (kp_put_P _ _ _).2.2.2.2.1 (ix5 (by omega)) ?_ | refine ko_iast dX2_clear_34 (kp_put_P _ _ _).2.2.2.2.2 (ix5 (by omega)) ?_
        rw [nI_clamp (by omega), zf_s]
        refine ko_h kq_4 ?_
        refine ko_inc1 (i := 1) (lv' := [(0, _), (1, _)]) dX2_clear_35 rfl (by decide) rfl rfl rfl ?_
        refine ko_goto (tgt := 2) dX2_clear_38 (by decide) ?_
        exact ko_lv (by simp [nI_succ]) (ih (i + 1) (by omega))
  refine ko_iconst (v := 0) dX2_clear_0 (by decide) ?_
  refine ko_istore_n (i := 1) (lv' := [(0, _), (1, _)]) dX2_clear_1 rfl (by decide) rfl rfl rfl ?_
  exact ko_h (by rw [zf_0, zf_0, zf_0, zf_0]) (LOOP 5 0 rfl)
abbrev kp_b : va_E := .inr (2, [.null, .null, .null, .null, .null, .int 0, .int 0, .int 0, .int 0])
theorem ku_s {h : kx_H} {a : Nat} {e : va_E} : kx_up h a e a = some e := if_pos rfl
theorem ku_n {h : kx_H} {a b : Nat} {e : va_E} (hb : b ≠ a) : kx_up h a e b = h b := if_neg hb
set_option maxRecDepth 20000 in
theorem fn_pInit {G : kx_G} {d a : Nat} {h : kx_H} (e0 : h a = some kp_b) (hd : 1 ≤ d) : kx_Fn mX2_init d 5 45 G [.ref a] (a + 1) h (none, a + 6, kp_put h a pZ) := by
  refine kx_Fn_of rfl (Nat.le_of_ble_eq_true rfl) rfl ?_ (fun q e he => ?_)
  · refine ko_aload_n (i := 0) dX2_init_0 rfl rfl ?_
    refine ko_objInit wo_X2 dX2_init_1 hd (Nat.le_of_ble_eq_true rfl) ?_
    refine ko_aload_n (i := 0) dX2_init_4 rfl rfl ?_
    refine ko_iconst (v := 5) dX2_init_5 (by decide) ?_
    refine ko_newi (L := 5) dX2_init_6 (by decide) rfl (by decide) (Nat.le_of_ble_eq_true rfl) (Nat.le_of_ble_eq_true rfl) wa_int ?_
    refine ko_putF fl_X2_9 rfl rfl dX2_init_8 (by rw [ku_n (by omega)]; exact e0) rfl rfl (Nat.le_of_ble_eq_true rfl) ?_
    refine ko_aload_n (i := 0) dX2_init_11 rfl rfl ?_
    refine ko_iconst (v := 5) dX2_init_12 (by decide) ?_
    refine ko_newi (L := 5) dX2_init_13 (by decide) rfl (by decide) (Nat.le_of_ble_eq_true rfl) (Nat.le_of_ble_eq_true rfl) wa_int ?_
    refine ko_putF fl_X2_15 rfl rfl dX2_init_15 (by rw [ku_n (by omega), ku_s]) rfl rfl (Nat.le_of_ble_eq_true rfl) ?_
    refine ko_aload_n (i := 0) dX2_init_18 rfl rfl ?_
    refine ko_iconst (v := 5) dX2_init_19 (by decide) ?_
    refine ko_newi (L := 5) dX2_init_20 (by decide) rfl (by decide) (Nat.le_of_ble_eq_true rfl) (Nat.le_of_ble_eq_true rfl) wa_int ?_
    refine ko_putF fl_X2_18 rfl rfl dX2_init_22 (by rw [ku_n (by omega), ku_s]) rfl rfl (Nat.le_of_ble_eq_true rfl) ?_
    refine ko_aload_n (i := 0) dX2_init_25 rfl rfl ?_
    refine ko_iconst (v := 5) dX2_init_26 (by decide) ?_
    refine ko_newi (L := 5) dX2_init_27 (by decide) rfl (by decide) (Nat.le_of_ble_eq_true rfl) (Nat.le_of_ble_eq_true rfl) wa_int ?_
    refine ko_putF fl_X2_21 rfl rfl dX2_init_29 (by rw [ku_n (by omega), ku_s]) rfl rfl (Nat.le_of_ble_eq_true rfl) ?_
    refine ko_aload_n (i := 0) dX2_init_32 rfl rfl ?_
    refine ko_bipush (v := 25) dX2_init_33 (by decide) ?_
    refine ko_newi (L := 25) dX2_init_35 (by decide) rfl (by decide) (Nat.le_of_ble_eq_true rfl) (Nat.le_of_ble_eq_true rfl) wa_int ?_
    refine ko_putF fl_X2_24 rfl rfl dX2_init_37 (by rw [ku_n (by omega), ku_s]) rfl rfl (Nat.le_of_ble_eq_true rfl) ?_
    refine ko_vret dX2_init_40 rfl (Nat.le_of_ble_eq_true rfl) (Nat.le_of_ble_eq_true rfl) ?_
    refine Prod.ext rfl (Prod.ext rfl ?_)
    refine (kp_ext (h := h) ⟨?_, ?_, ?_, ?_, ?_, ?_⟩ (fun q hq => ?_)).symm
    · show kx_up _ _ _ _ = _
      rw [ku_s]; rfl
    · show kx_up _ _ _ _ = _
      rw [ku_n (by omega), ku_n (by omega), ku_n (by omega), ku_n (by omega), ku_n (by omega), ku_n (by omega), ku_n (by omega), ku_n (by omega), ku_n (by omega), ku_s]; rfl
    · show kx_up _ _ _ _ = _
      rw [ku_n (by omega), ku_n (by omega), ku_n (by omega), ku_n (by omega), ku_n (by omega), ku_n (by omega), ku_n (by omega), ku_s]; rfl
    · show kx_up _ _ _ _ = _
      rw [ku_n (by omega), ku_n (by omega), ku_n (by omega), ku_n (by omega), ku_n (by omega), ku_s]; rfl
    · show kx_up _ _ _ _ = _
      rw [ku_n (by omega), ku_n (by omega), ku_n (by omega), ku_s]; rfl
    · show kx_up _ _ _ _ = _
      rw [ku_n (by omega), ku_s]; rfl
    · show kx_up _ _ _ _ = _
      rw [ku_n (by omega), ku_n (by omega), ku_n (by omega), ku_n (by omega), ku_n (by omega), ku_n (by omega), ku_n (by omega), ku_n (by omega), ku_n (by omega), ku_n (by omega)]
  · by_cases hq : q < a ∨ a + 5 < q
    · have he : kp_put h a pZ q = some e := he
      rw [kp_put_out hq] at he
      exact kx_self q e he
    · by_cases hqa : q = a
      · subst hqa; exact kx_self _ _ e0
      · exact Or.inr (by omega)
