/-! ===== People: loops over five ===== -/
theorem ix5 {i : Nat} (h : i < 5) : vp_in (nI i) 5 := vp_in_nI h (by omega)
def asI (u : PU) : Nat → Int32
  | 0 => 0
  | i + 1 => asI u i + pSo u i
def twI (u : PU) (p : Int32) : Nat → Int32
  | 0 => 0
  | i + 1 => if mayI u p (nI i) = true then twI u p i ||| 1 <<< (nI i &&& 31) else twI u p i
def uwI (u : PU) : Nat → Int32
  | 0 => pOp u
  | i + 1 => uwI u i &&& (twI u (nI i) 5 ^^^ (-1))
def kaB (u : PU) (i : Nat) : Bool := hasI (pN u) (nI i) && decide ((pKn u i ||| 1 <<< (nI i &&& 31)) = evI (pN u))
def kaI (u : PU) : Nat → Int32
  | 0 => 0
  | i + 1 => if kaB u i = true then kaI u i ||| 1 <<< (nI i &&& 31) else kaI u i
def dbI (u : PU) (p q : Int32) : Int32 := if hasI (pN u) p = true then if hasI (pN u) q = true then pOw u (p * 5 + q).toNatClampNeg else 0 else 0
def crI (u : PU) (p : Int32) : Nat → Int32
  | 0 => 0
  | i + 1 => if dbI u p (nI i) ≤ 0 then crI u p i else crI u p i ||| 1 <<< (nI i &&& 31)
def rbJ (u : PU) (r : Int32) : Nat → Int32
  | 0 => r
  | i + 1 => if hbI (rbJ u r i) (nI i) = true then rbJ u r i ||| crI u (nI i) 5 else rbJ u r i
def rbI (u : PU) (p : Int32) : Nat → Int32
  | 0 => crI u p 5
  | i + 1 => rbJ u (rbI u p i) 5
set_option maxRecDepth 20000 in
theorem fn_allSorrow {G : kx_G} {d N a : Nat} {h : kx_H} {u : PU} (hP : kP h a u) : kx_Fn mX2_allSorrow d 0 0 G [.ref a] N h (some (.int (asI u 5)), N, h) := by
  refine kx_Fn_of rfl (Nat.le_of_ble_eq_true rfl) rfl ?_ (kx_self)
  obtain ⟨e0, e1, e2, e3, e4, e5⟩ := id hP
  have LOOP : ∀ (k i : Nat), k + i = 5 → kx_Ok mX2_allSorrow d 0 0 G 0 0 4 [(0, .ref a), (1, .int (asI u i)), (2, .int (nI i))] [] N h (some (.int (asI u 5)), N, h) := by
    intro k
    induction k with
    | zero =>
      intro i hi
      obtain rfl : i = 5 := by omega
      refine ko_iload_n (i := 2) dX2_allSorrow_4 rfl rfl ?_
      refine ko_iconst (v := 5) dX2_allSorrow_5 (by decide) ?_
      refine ko_icmp_ge (tgt := 24) dX2_allSorrow_6 (by decide) (fun c_6 => ?_) (fun c_6 => ?_)
      · refine ko_iload_n (i := 1) dX2_allSorrow_24 rfl rfl ?_
        refine ko_iret dX2_allSorrow_25 rfl (Nat.le_of_ble_eq_true rfl) (Nat.le_of_ble_eq_true rfl) ?_
        rfl
      · exact absurd (show (5 : Int32) ≤ nI 5 by decide) c_6
    | succ k ih =>
      intro i hi
      refine ko_iload_n (i := 2) dX2_allSorrow_4 rfl rfl ?_
      refine ko_iconst (v := 5) dX2_allSorrow_5 (by decide) ?_
      refine ko_icmp_ge (tgt := 24) dX2_allSorrow_6 (by decide) (fun c_6 => ?_) (fun c_6 => ?_)
      · exact absurd (show nI 5 ≤ nI i from c_6) (nI_ge (by omega) (by omega))
      · refine ko_iload_n (i := 1) dX2_allSorrow_9 rfl rfl ?_
        refine ko_aload_n (i := 0) dX2_allSorrow_10 rfl rfl ?_
        refine ko_get fl_X2_9 dX2_allSorrow_11 e0 rfl ?_
        refine ko_iload_n (i := 2) dX2_allSorrow_14 rfl rfl ?_
        refine ko_iald dX2_allSorrow_15 e1 (ix5 (by omega)) ?_
        rw [nI_clamp (by omega)]
        refine ko_iadd dX2_allSorrow_16 ?_
        refine ko_istore_n (i := 1) (lv' := [(0, _), (1, _), (2, _)]) dX2_allSorrow_17 rfl (by decide) rfl rfl rfl ?_
        refine ko_inc1 (i := 2) (lv' := [(0, _), (1, _), (2, _)]) dX2_allSorrow_18 rfl (by decide) rfl rfl rfl ?_
        refine ko_goto (tgt := 4) dX2_allSorrow_21 (by decide) ?_
        exact ko_lv (by simp [asI, nI_succ, c_6]) (ih (i + 1) (by omega))
  refine ko_iconst (v := 0) dX2_allSorrow_0 (by decide) ?_
  refine ko_istore_n (i := 1) (lv' := [(0, _), (1, _)]) dX2_allSorrow_1 rfl (by decide) rfl rfl rfl ?_
  refine ko_iconst (v := 0) dX2_allSorrow_2 (by decide) ?_
  refine ko_istore_n (i := 2) (lv' := [(0, _), (1, _), (2, _)]) dX2_allSorrow_3 rfl (by decide) rfl rfl rfl ?_
  exact LOOP 5 0 rfl
set_option maxRecDepth 20000 in
theorem fn_thoseToWeepFor {G : kx_G} {d N a : Nat} {h : kx_H} {u : PU} {p : Int32} (hP : kP h a u) (hd : 4 ≤ d) : kx_Fn mX2_thoseToWeepFor d 0 0 G [.ref a, .int p] N h (some (.int (twI u p 5)), N, h) := by
  refine kx_Fn_of rfl (Nat.le_of_ble_eq_true rfl) rfl ?_ (kx_self)
  obtain ⟨e0, e1, e2, e3, e4, e5⟩ := id hP
  have LOOP : ∀ (k i : Nat), k + i = 5 → kx_Ok mX2_thoseToWeepFor d 0 0 G 0 0 4 [(0, .ref a), (1, .int p), (2, .int (twI u p i)), (3, .int (nI i))] [] N h (some (.int (twI u p 5)), N, h) := by
    intro k
    induction k with
    | zero =>
      intro i hi
      obtain rfl : i = 5 := by omega
      refine ko_iload_n (i := 3) dX2_thoseToWeepFor_4 rfl rfl ?_
      refine ko_iconst (v := 5) dX2_thoseToWeepFor_5 (by decide) ?_
      refine ko_icmp_ge (tgt := 30) dX2_thoseToWeepFor_6 (by decide) (fun c_6 => ?_) (fun c_6 => ?_)
      · refine ko_iload_n (i := 2) dX2_thoseToWeepFor_30 rfl rfl ?_
        refine ko_iret dX2_thoseToWeepFor_31 rfl (Nat.le_of_ble_eq_true rfl) (Nat.le_of_ble_eq_true rfl) ?_
        rfl
      · exact absurd (show (5 : Int32) ≤ nI 5 by decide) c_6
    | succ k ih =>
      intro i hi
      refine ko_iload_n (i := 3) dX2_thoseToWeepFor_4 rfl rfl ?_
      refine ko_iconst (v := 5) dX2_thoseToWeepFor_5 (by decide) ?_
      refine ko_icmp_ge (tgt := 30) dX2_thoseToWeepFor_6 (by decide) (fun c_6 => ?_) (fun c_6 => ?_)
      · exact absurd (show nI 5 ≤ nI i from c_6) (nI_ge (by omega) (by omega))
      · refine ko_aload_n (i := 0) dX2_thoseToWeepFor_9 rfl rfl ?_
        refine ko_iload_n (i := 1) dX2_thoseToWeepFor_10 rfl rfl ?_
        refine ko_iload_n (i := 3) dX2_thoseToWeepFor_11 rfl rfl ?_
        refine ko_callVr lk_X2_71 dX2_thoseToWeepFor_12 (fn_mayWeep (d := d - 1) hP (by omega)) rfl rfl e0 rfl rfl (by omega) (by omega) (by omega) (Nat.le_of_ble_eq_true rfl) ?_
        first | refine ko_ifb_eq (tgt := 24) dX2_thoseToWeepFor_15 (by decide) (fun c_15 => ?_) (fun c_15 => ?_) | refine ko_if_eq (tgt := 24) dX2_thoseToWeepFor_15 (by decide) (fun c_15 => ?_) (fun c_15 => ?_)
        · refine ko_inc1 (i := 3) (lv' := [(0, _), (1, _), (2, _), (3, _)]) dX2_thoseToWeepFor_24 rfl (by decide) rfl rfl rfl ?_
          refine ko_goto (tgt := 4) dX2_thoseToWeepFor_27 (by decide) ?_
          exact ko_lv (by simp [twI, nI_succ, c_6, c_15]) (ih (i + 1) (by omega))
        · refine ko_iload_n (i := 2) dX2_thoseToWeepFor_18 rfl rfl ?_
          refine ko_iconst (v := 1) dX2_thoseToWeepFor_19 (by decide) ?_
          refine ko_iload_n (i := 3) dX2_thoseToWeepFor_20 rfl rfl ?_
          refine ko_ishl dX2_thoseToWeepFor_21 ?_
          refine ko_ior dX2_thoseToWeepFor_22 ?_
          refine ko_istore_n (i := 2) (lv' := [(0, _), (1, _), (2, _), (3, _)]) dX2_thoseToWeepFor_23 rfl (by decide) rfl rfl rfl ?_
          refine ko_inc1 (i := 3) (lv' := [(0, _), (1, _), (2, _), (3, _)]) dX2_thoseToWeepFor_24 rfl (by decide) rfl rfl rfl ?_
          refine ko_goto (tgt := 4) dX2_thoseToWeepFor_27 (by decide) ?_
          exact ko_lv (by simp [twI, nI_succ, c_6, c_15]) (ih (i + 1) (by omega))
  refine ko_iconst (v := 0) dX2_thoseToWeepFor_0 (by decide) ?_
  refine ko_istore_n (i := 2) (lv' := [(0, _), (1, _), (2, _)]) dX2_thoseToWeepFor_1 rfl (by decide) rfl rfl rfl ?_
  refine ko_iconst (v := 0) dX2_thoseToWeepFor_2 (by decide) ?_
  refine ko_istore_n (i := 3) (lv' := [(0, _), (1, _), (2, _), (3, _)]) dX2_thoseToWeepFor_3 rfl (by decide) rfl rfl rfl ?_
  exact LOOP 5 0 rfl
set_option maxRecDepth 20000 in
theorem fn_unweptBits {G : kx_G} {d N a : Nat} {h : kx_H} {u : PU} (hP : kP h a u) (hd : 5 ≤ d) : kx_Fn mX2_unweptBits d 0 0 G [.ref a] N h (some (.int (uwI u 5)), N, h) := by
  refine kx_Fn_of rfl (Nat.le_of_ble_eq_true rfl) rfl ?_ (kx_self)
  obtain ⟨e0, e1, e2, e3, e4, e5⟩ := id hP
  have LOOP : ∀ (k i : Nat), k + i = 5 → kx_Ok mX2_unweptBits d 0 0 G 0 0 7 [(0, .ref a), (1, .int (uwI u i)), (2, .int (nI i))] [] N h (some (.int (uwI u 5)), N, h) := by
    intro k
    induction k with
    | zero =>
      intro i hi
      obtain rfl : i = 5 := by omega
      refine ko_iload_n (i := 2) dX2_unweptBits_7 rfl rfl ?_
      refine ko_iconst (v := 5) dX2_unweptBits_8 (by decide) ?_
      refine ko_icmp_ge (tgt := 28) dX2_unweptBits_9 (by decide) (fun c_9 => ?_) (fun c_9 => ?_)
      · refine ko_iload_n (i := 1) dX2_unweptBits_28 rfl rfl ?_
        refine ko_iret dX2_unweptBits_29 rfl (Nat.le_of_ble_eq_true rfl) (Nat.le_of_ble_eq_true rfl) ?_
        rfl
      · exact absurd (show (5 : Int32) ≤ nI 5 by decide) c_9
    | succ k ih =>
      intro i hi
      refine ko_iload_n (i := 2) dX2_unweptBits_7 rfl rfl ?_
      refine ko_iconst (v := 5) dX2_unweptBits_8 (by decide) ?_
      refine ko_icmp_ge (tgt := 28) dX2_unweptBits_9 (by decide) (fun c_9 => ?_) (fun c_9 => ?_)
      · exact absurd (show nI 5 ≤ nI i from c_9) (nI_ge (by omega) (by omega))
      · refine ko_iload_n (i := 1) dX2_unweptBits_12 rfl rfl ?_
        refine ko_aload_n (i := 0) dX2_unweptBits_13 rfl rfl ?_
        refine ko_iload_n (i := 2) dX2_unweptBits_14 rfl rfl ?_
        refine ko_callVr lk_X2_74 dX2_unweptBits_15 (fn_thoseToWeepFor (d := d - 1) hP (by omega)) rfl rfl e0 rfl rfl (by omega) (by omega) (by omega) (Nat.le_of_ble_eq_true rfl) ?_
        refine ko_iconst (v := (-1)) dX2_unweptBits_18 (by decide) ?_
        refine ko_ixor dX2_unweptBits_19 ?_
        refine ko_iand dX2_unweptBits_20 ?_
        refine ko_istore_n (i := 1) (lv' := [(0, _), (1, _), (2, _)]) dX2_unweptBits_21 rfl (by decide) rfl rfl rfl ?_
        refine ko_inc1 (i := 2) (lv' := [(0, _), (1, _), (2, _)]) dX2_unweptBits_22 rfl (by decide) rfl rfl rfl ?_
        refine ko_goto (tgt := 7) dX2_unweptBits_25 (by decide) ?_
        exact ko_lv (by simp [uwI, nI_succ, c_9]) (ih (i + 1) (by omega))
  refine ko_aload_n (i := 0) dX2_unweptBits_0 rfl rfl ?_
  refine ko_get fl_X2_37 dX2_unweptBits_1 e0 rfl ?_
  refine ko_istore_n (i := 1) (lv' := [(0, _), (1, _)]) dX2_unweptBits_4 rfl (by decide) rfl rfl rfl ?_
  refine ko_iconst (v := 0) dX2_unweptBits_5 (by decide) ?_
  refine ko_istore_n (i := 2) (lv' := [(0, _), (1, _), (2, _)]) dX2_unweptBits_6 rfl (by decide) rfl rfl rfl ?_
  exact LOOP 5 0 rfl
set_option maxRecDepth 20000 in
theorem fn_kinToAllBits {G : kx_G} {d N a : Nat} {h : kx_H} {u : PU} (hP : kP h a u) (hd : 1 ≤ d) : kx_Fn mX2_kinToAllBits d 0 0 G [.ref a] N h (some (.int (kaI u 5)), N, h) := by
  refine kx_Fn_of rfl (Nat.le_of_ble_eq_true rfl) rfl ?_ (kx_self)
  obtain ⟨e0, e1, e2, e3, e4, e5⟩ := id hP
  have LOOP : ∀ (k i : Nat), k + i = 5 → kx_Ok mX2_kinToAllBits d 0 0 G 0 0 4 [(0, .ref a), (1, .int (kaI u i)), (2, .int (nI i))] [] N h (some (.int (kaI u 5)), N, h) := by
    intro k
    induction k with
    | zero =>
      intro i hi
      obtain rfl : i = 5 := by omega
      refine ko_iload_n (i := 2) dX2_kinToAllBits_4 rfl rfl ?_
      refine ko_iconst (v := 5) dX2_kinToAllBits_5 (by decide) ?_
      refine ko_icmp_ge (tgt := 46) dX2_kinToAllBits_6 (by decide) (fun c_6 => ?_) (fun c_6 => ?_)
      · refine ko_iload_n (i := 1) dX2_kinToAllBits_46 rfl rfl ?_
        refine ko_iret dX2_kinToAllBits_47 rfl (Nat.le_of_ble_eq_true rfl) (Nat.le_of_ble_eq_true rfl) ?_
        rfl
      · exact absurd (show (5 : Int32) ≤ nI 5 by decide) c_6
    | succ k ih =>
      intro i hi
      refine ko_iload_n (i := 2) dX2_kinToAllBits_4 rfl rfl ?_
      refine ko_iconst (v := 5) dX2_kinToAllBits_5 (by decide) ?_
      refine ko_icmp_ge (tgt := 46) dX2_kinToAllBits_6 (by decide) (fun c_6 => ?_) (fun c_6 => ?_)
      · exact absurd (show nI 5 ≤ nI i from c_6) (nI_ge (by omega) (by omega))
      · refine ko_aload_n (i := 0) dX2_kinToAllBits_9 rfl rfl ?_
        refine ko_iload_n (i := 2) dX2_kinToAllBits_10 rfl rfl ?_
        refine ko_callVr lk_X2_54 dX2_kinToAllBits_11 (fn_has (d := d - 1) hP) rfl rfl e0 rfl rfl (by omega) (by omega) (by omega) (Nat.le_of_ble_eq_true rfl) ?_
        first | refine ko_ifb_eq (tgt := 40) dX2_kinToAllBits_14 (by decide) (fun c_14 => ?_) (fun c_14 => ?_) | refine ko_if_eq (tgt := 40) dX2_kinToAllBits_14 (by decide) (fun c_14 => ?_) (fun c_14 => ?_)
        · refine ko_inc1 (i := 2) (lv' := [(0, _), (1, _), (2, _)]) dX2_kinToAllBits_40 rfl (by decide) rfl rfl rfl ?_
          refine ko_goto (tgt := 4) dX2_kinToAllBits_43 (by decide) ?_
          exact ko_lv (by simp [kaI, kaB, nI_succ, c_6, c_14]) (ih (i + 1) (by omega))
        · refine ko_aload_n (i := 0) dX2_kinToAllBits_17 rfl rfl ?_
          refine ko_get fl_X2_21 dX2_kinToAllBits_18 e0 rfl ?_
          refine ko_iload_n (i := 2) dX2_kinToAllBits_21 rfl rfl ?_
          refine ko_iald dX2_kinToAllBits_22 e4 (ix5 (by omega)) ?_
          rw [nI_clamp (by omega)]
          refine ko_iconst (v := 1) dX2_kinToAllBits_23 (by decide) ?_
          refine ko_iload_n (i := 2) dX2_kinToAllBits_24 rfl rfl ?_
          refine ko_ishl dX2_kinToAllBits_25 ?_
          refine ko_ior dX2_kinToAllBits_26 ?_
          refine ko_aload_n (i := 0) dX2_kinToAllBits_27 rfl rfl ?_
          refine ko_callVr lk_X2_46 dX2_kinToAllBits_28 (fn_everyone (d := d - 1) hP) rfl rfl e0 rfl rfl (by omega) (by omega) (by omega) (Nat.le_of_ble_eq_true rfl) ?_
          refine ko_icmp_ne (tgt := 40) dX2_kinToAllBits_31 (by decide) (fun c_31 => ?_) (fun c_31 => ?_)
          · refine ko_inc1 (i := 2) (lv' := [(0, _), (1, _), (2, _)]) dX2_kinToAllBits_40 rfl (by decide) rfl rfl rfl ?_
            refine ko_goto (tgt := 4) dX2_kinToAllBits_43 (by decide) ?_
            exact ko_lv (by simp [kaI, kaB, nI_succ, c_6, c_14, c_31]) (ih (i + 1) (by omega))
          · refine ko_iload_n (i := 1) dX2_kinToAllBits_34 rfl rfl ?_
            refine ko_iconst (v := 1) dX2_kinToAllBits_35 (by decide) ?_
            refine ko_iload_n (i := 2) dX2_kinToAllBits_36 rfl rfl ?_
            refine ko_ishl dX2_kinToAllBits_37 ?_
            refine ko_ior dX2_kinToAllBits_38 ?_
            refine ko_istore_n (i := 1) (lv' := [(0, _), (1, _), (2, _)]) dX2_kinToAllBits_39 rfl (by decide) rfl rfl rfl ?_
            refine ko_inc1 (i := 2) (lv' := [(0, _), (1, _), (2, _)]) dX2_kinToAllBits_40 rfl (by decide) rfl rfl rfl ?_
            refine ko_goto (tgt := 4) dX2_kinToAllBits_43 (by decide) ?_
            exact ko_lv (by simp [kaI, kaB, nI_succ, c_6, c_14, c_31]) (ih (i + 1) (by omega))
  refine ko_iconst (v := 0) dX2_kinToAllBits_0 (by decide) ?_
  refine ko_istore_n (i := 1) (lv' := [(0, _), (1, _)]) dX2_kinToAllBits_1 rfl (by decide) rfl rfl rfl ?_
  refine ko_iconst (v := 0) dX2_kinToAllBits_2 (by decide) ?_
  refine ko_istore_n (i := 2) (lv' := [(0, _), (1, _), (2, _)]) dX2_kinToAllBits_3 rfl (by decide) rfl rfl rfl ?_
  exact LOOP 5 0 rfl
theorem in25 {n p q : Int32} (h1 : hasI n p = true) (h2 : hasI n q = true) : vp_in (p * 5 + q) 25 ∧ (p * 5 + q).toNatClampNeg = p.toNatClampNeg * 5 + q.toNatClampNeg := by
  obtain ⟨i, hi, rfl⟩ := vp_in_of (hasI_in h1) (by decide)
  obtain ⟨j, hj, rfl⟩ := vp_in_of (hasI_in h2) (by decide)
  have e : nI i * 5 + nI j = nI (i * 5 + j) := by rw [show (5 : Int32) = nI 5 from rfl, pk_mul, nI_add]
  rw [e, nI_clamp (by omega), nI_clamp (by omega), nI_clamp (by omega)]
  exact ⟨vp_in_nI (by omega) (by omega), rfl⟩
set_option maxRecDepth 20000 in
theorem fn_debt {G : kx_G} {d N a : Nat} {h : kx_H} {u : PU} {p q : Int32} (hP : kP h a u) (hd : 1 ≤ d) : kx_Fn mX2_debt d 0 0 G [.ref a, .int p, .int q] N h (some (.int (dbI u p q)), N, h) := by
  refine kx_Fn_of rfl (Nat.le_of_ble_eq_true rfl) rfl ?_ (kx_self)
  obtain ⟨e0, e1, e2, e3, e4, e5⟩ := id hP
  refine ko_aload_n (i := 0) dX2_debt_0 rfl rfl ?_
  refine ko_iload_n (i := 1) dX2_debt_1 rfl rfl ?_
  refine ko_callVr lk_X2_54 dX2_debt_2 (fn_has (d := d - 1) hP) rfl rfl e0 rfl rfl (by omega) (by omega) (by omega) (Nat.le_of_ble_eq_true rfl) ?_
  first | refine ko_ifb_eq (tgt := 29) dX2_debt_5 (by decide) (fun c_5 => ?_) (fun c_5 => ?_) | refine ko_if_eq (tgt := 29) dX2_debt_5 (by decide) (fun c_5 => ?_) (fun c_5 => ?_)
  · refine ko_iconst (v := 0) dX2_debt_29 (by decide) ?_
    refine ko_iret dX2_debt_30 rfl (Nat.le_of_ble_eq_true rfl) (Nat.le_of_ble_eq_true rfl) ?_
    simp [kb, dbI, c_5]
  · refine ko_aload_n (i := 0) dX2_debt_8 rfl rfl ?_
    refine ko_iload_n (i := 2) dX2_debt_9 rfl rfl ?_
    refine ko_callVr lk_X2_54 dX2_debt_10 (fn_has (d := d - 1) hP) rfl rfl e0 rfl rfl (by omega) (by omega) (by omega) (Nat.le_of_ble_eq_true rfl) ?_
    first | refine ko_ifb_eq (tgt := 29) dX2_debt_13 (by decide) (fun c_13 => ?_) (fun c_13 => ?_) | refine ko_if_eq (tgt := 29) dX2_debt_13 (by decide) (fun c_13 => ?_) (fun c_13 => ?_)
    · refine ko_iconst (v := 0) dX2_debt_29 (by decide) ?_
      refine ko_iret dX2_debt_30 rfl (Nat.le_of_ble_eq_true rfl) (Nat.le_of_ble_eq_true rfl) ?_
      simp [kb, dbI, c_5, c_13]
    · refine ko_aload_n (i := 0) dX2_debt_16 rfl rfl ?_
      refine ko_get fl_X2_24 dX2_debt_17 e0 rfl ?_
      refine ko_iload_n (i := 1) dX2_debt_20 rfl rfl ?_
      refine ko_iconst (v := 5) dX2_debt_21 (by decide) ?_
      refine ko_imul dX2_debt_22 ?_
      refine ko_iload_n (i := 2) dX2_debt_23 rfl rfl ?_
      refine ko_iadd dX2_debt_24 ?_
      refine ko_iald dX2_debt_25 e5 (in25 c_5 c_13).1 ?_
      refine ko_goto (tgt := 30) dX2_debt_26 (by decide) ?_
      refine ko_iret dX2_debt_30 rfl (Nat.le_of_ble_eq_true rfl) (Nat.le_of_ble_eq_true rfl) ?_
      simp [kb, dbI, c_5, c_13]
set_option maxRecDepth 20000 in
theorem fn_creditors {G : kx_G} {d N a : Nat} {h : kx_H} {u : PU} {p : Int32} (hP : kP h a u) (hd : 2 ≤ d) : kx_Fn mX2_creditors d 0 0 G [.ref a, .int p] N h (some (.int (crI u p 5)), N, h) := by
  refine kx_Fn_of rfl (Nat.le_of_ble_eq_true rfl) rfl ?_ (kx_self)
  obtain ⟨e0, e1, e2, e3, e4, e5⟩ := id hP
  have LOOP : ∀ (k i : Nat), k + i = 5 → kx_Ok mX2_creditors d 0 0 G 0 0 4 [(0, .ref a), (1, .int p), (2, .int (crI u p i)), (3, .int (nI i))] [] N h (some (.int (crI u p 5)), N, h) := by
    intro k
    induction k with
    | zero =>
      intro i hi
      obtain rfl : i = 5 := by omega
      refine ko_iload_n (i := 3) dX2_creditors_4 rfl rfl ?_
      refine ko_iconst (v := 5) dX2_creditors_5 (by decide) ?_
      refine ko_icmp_ge (tgt := 30) dX2_creditors_6 (by decide) (fun c_6 => ?_) (fun c_6 => ?_)
      · refine ko_iload_n (i := 2) dX2_creditors_30 rfl rfl ?_
        refine ko_iret dX2_creditors_31 rfl (Nat.le_of_ble_eq_true rfl) (Nat.le_of_ble_eq_true rfl) ?_
        rfl
      · exact absurd (show (5 : Int32) ≤ nI 5 by decide) c_6
    | succ k ih =>
      intro i hi
      refine ko_iload_n (i := 3) dX2_creditors_4 rfl rfl ?_
      refine ko_iconst (v := 5) dX2_creditors_5 (by decide) ?_
      refine ko_icmp_ge (tgt := 30) dX2_creditors_6 (by decide) (fun c_6 => ?_) (fun c_6 => ?_)
      · exact absurd (show nI 5 ≤ nI i from c_6) (nI_ge (by omega) (by omega))
      · refine ko_aload_n (i := 0) dX2_creditors_9 rfl rfl ?_
        refine ko_iload_n (i := 1) dX2_creditors_10 rfl rfl ?_
        refine ko_iload_n (i := 3) dX2_creditors_11 rfl rfl ?_
        refine ko_callVr lk_X2_80 dX2_creditors_12 (fn_debt (d := d - 1) hP (by omega)) rfl rfl e0 rfl rfl (by omega) (by omega) (by omega) (Nat.le_of_ble_eq_true rfl) ?_
        refine ko_if_le (tgt := 24) dX2_creditors_15 (by decide) (fun c_15 => ?_) (fun c_15 => ?_)
        · refine ko_inc1 (i := 3) (lv' := [(0, _), (1, _), (2, _), (3, _)]) dX2_creditors_24 rfl (by decide) rfl rfl rfl ?_
          refine ko_goto (tgt := 4) dX2_creditors_27 (by decide) ?_
          exact ko_lv (by simp [crI, nI_succ, c_6, c_15]) (ih (i + 1) (by omega))
        · refine ko_iload_n (i := 2) dX2_creditors_18 rfl rfl ?_
          refine ko_iconst (v := 1) dX2_creditors_19 (by decide) ?_
          refine ko_iload_n (i := 3) dX2_creditors_20 rfl rfl ?_
          refine ko_ishl dX2_creditors_21 ?_
          refine ko_ior dX2_creditors_22 ?_
          refine ko_istore_n (i := 2) (lv' := [(0, _), (1, _), (2, _), (3, _)]) dX2_creditors_23 rfl (by decide) rfl rfl rfl ?_
          refine ko_inc1 (i := 3) (lv' := [(0, _), (1, _), (2, _), (3, _)]) dX2_creditors_24 rfl (by decide) rfl rfl rfl ?_
          refine ko_goto (tgt := 4) dX2_creditors_27 (by decide) ?_
          exact ko_lv (by simp [crI, nI_succ, c_6, c_15]) (ih (i + 1) (by omega))
  refine ko_iconst (v := 0) dX2_creditors_0 (by decide) ?_
  refine ko_istore_n (i := 2) (lv' := [(0, _), (1, _), (2, _)]) dX2_creditors_1 rfl (by decide) rfl rfl rfl ?_
  refine ko_iconst (v := 0) dX2_creditors_2 (by decide) ?_
  refine ko_istore_n (i := 3) (lv' := [(0, _), (1, _), (2, _), (3, _)]) dX2_creditors_3 rfl (by decide) rfl rfl rfl ?_
  exact LOOP 5 0 rfl
set_option maxRecDepth 20000 in
theorem fn_reachedByDebts {G : kx_G} {d N a : Nat} {h : kx_H} {u : PU} {p : Int32} (hP : kP h a u) (hd : 3 ≤ d) : kx_Fn mX2_reachedByDebts d 0 0 G [.ref a, .int p] N h (some (.int (rbI u p 5)), N, h) := by
  refine kx_Fn_of rfl (Nat.le_of_ble_eq_true rfl) rfl ?_ (kx_self)
  obtain ⟨e0, e1, e2, e3, e4, e5⟩ := id hP
  have LOOP : ∀ (k i : Nat), k + i = 5 → kx_Ok mX2_reachedByDebts d 0 0 G 0 0 8 [(0, .ref a), (1, .int p), (2, .int (rbI u p i)), (3, .int (nI i))] [] N h (some (.int (rbI u p 5)), N, h) := by
    intro k
    induction k with
    | zero =>
      intro i hi
      obtain rfl : i = 5 := by omega
      refine ko_iload_n (i := 3) dX2_reachedByDebts_8 rfl rfl ?_
      refine ko_iconst (v := 5) dX2_reachedByDebts_9 (by decide) ?_
      refine ko_icmp_ge (tgt := 52) dX2_reachedByDebts_10 (by decide) (fun c_10 => ?_) (fun c_10 => ?_)
      · refine ko_iload_n (i := 2) dX2_reachedByDebts_52 rfl rfl ?_
        refine ko_iret dX2_reachedByDebts_53 rfl (Nat.le_of_ble_eq_true rfl) (Nat.le_of_ble_eq_true rfl) ?_
        rfl
      · exact absurd (show (5 : Int32) ≤ nI 5 by decide) c_10
    | succ k ih =>
      intro i hi
      have LIN : ∀ (k j : Nat), k + j = 5 → kx_Ok mX2_reachedByDebts d 0 0 G 0 0 16 [(0, .ref a), (1, .int p), (2, .int (rbJ u (rbI u p i) j)), (3, .int (nI i)), (4, .int (nI j))] [] N h (some (.int (rbI u p 5)), N, h) := by
        intro k
        induction k with
        | zero =>
          intro j hi
          obtain rfl : j = 5 := by omega
          refine ko_iload (i := 4) dX2_reachedByDebts_16 rfl ?_
          refine ko_iconst (v := 5) dX2_reachedByDebts_18 (by decide) ?_
          refine ko_icmp_ge (tgt := 46) dX2_reachedByDebts_19 (by decide) (fun c_19 => ?_) (fun c_19 => ?_)
          · refine ko_inc1 (i := 3) (lv' := [(0, _), (1, _), (2, _), (3, _), (4, _)]) dX2_reachedByDebts_46 rfl (by decide) rfl rfl rfl ?_
            refine ko_goto (tgt := 8) dX2_reachedByDebts_49 (by decide) ?_
            exact ko_keep [0, 1, 2, 3] (lv' := [(0, _), (1, _), (2, _), (3, _)]) rfl (ko_lv (by simp [rbI, nI_succ]) (ih (i + 1) (by omega)))
          · exact absurd (show (5 : Int32) ≤ nI 5 by decide) c_19
        | succ k ihj =>
          intro j hi
          refine ko_iload (i := 4) dX2_reachedByDebts_16 rfl ?_
          refine ko_iconst (v := 5) dX2_reachedByDebts_18 (by decide) ?_
          refine ko_icmp_ge (tgt := 46) dX2_reachedByDebts_19 (by decide) (fun c_19 => ?_) (fun c_19 => ?_)
          · exact absurd (show nI 5 ≤ nI j from c_19) (nI_ge (by omega) (by omega))
          · refine ko_iload_n (i := 2) dX2_reachedByDebts_22 rfl rfl ?_
            refine ko_iload (i := 4) dX2_reachedByDebts_23 rfl ?_
            refine ko_callSNr lk_X2_50 dX2_reachedByDebts_25 (fn_hasBit (d := d - 1)) rfl rfl (by omega) (by omega) (by omega) (Nat.le_of_ble_eq_true rfl) ?_
            first | refine ko_ifb_eq (tgt := 40) dX2_reachedByDebts_28 (by decide) (fun c_28 => ?_) (fun c_28 => ?_) | refine ko_if_eq (tgt := 40) dX2_reachedByDebts_28 (by decide) (fun c_28 => ?_) (fun c_28 => ?_)
            · refine ko_inc1 (i := 4) (lv' := [(0, _), (1, _), (2, _), (3, _), (4, _)]) dX2_reachedByDebts_40 rfl (by decide) rfl rfl rfl ?_
              refine ko_goto (tgt := 16) dX2_reachedByDebts_43 (by decide) ?_
              exact ko_lv (by simp [rbJ, nI_succ, c_19, c_28]) (ihj (j + 1) (by omega))
            · refine ko_iload_n (i := 2) dX2_reachedByDebts_31 rfl rfl ?_
              refine ko_aload_n (i := 0) dX2_reachedByDebts_32 rfl rfl ?_
              refine ko_iload (i := 4) dX2_reachedByDebts_33 rfl ?_
              refine ko_callVr lk_X2_77 dX2_reachedByDebts_35 (fn_creditors (d := d - 1) hP (by omega)) rfl rfl e0 rfl rfl (by omega) (by omega) (by omega) (Nat.le_of_ble_eq_true rfl) ?_
              refine ko_ior dX2_reachedByDebts_38 ?_
              refine ko_istore_n (i := 2) (lv' := [(0, _), (1, _), (2, _), (3, _), (4, _)]) dX2_reachedByDebts_39 rfl (by decide) rfl rfl rfl ?_
              refine ko_inc1 (i := 4) (lv' := [(0, _), (1, _), (2, _), (3, _), (4, _)]) dX2_reachedByDebts_40 rfl (by decide) rfl rfl rfl ?_
              refine ko_goto (tgt := 16) dX2_reachedByDebts_43 (by decide) ?_
              exact ko_lv (by simp [rbJ, nI_succ, c_19, c_28]) (ihj (j + 1) (by omega))
      refine ko_iload_n (i := 3) dX2_reachedByDebts_8 rfl rfl ?_
      refine ko_iconst (v := 5) dX2_reachedByDebts_9 (by decide) ?_
      refine ko_icmp_ge (tgt := 52) dX2_reachedByDebts_10 (by decide) (fun c_10 => ?_) (fun c_10 => ?_)
      · exact absurd (show nI 5 ≤ nI i from c_10) (nI_ge (by omega) (by omega))
      · refine ko_iconst (v := 0) dX2_reachedByDebts_13 (by decide) ?_
        refine ko_istore (i := 4) (lv' := [(0, _), (1, _), (2, _), (3, _), (4, _)]) dX2_reachedByDebts_14 (by decide) rfl rfl rfl ?_
        exact LIN 5 0 rfl
  refine ko_aload_n (i := 0) dX2_reachedByDebts_0 rfl rfl ?_
  refine ko_iload_n (i := 1) dX2_reachedByDebts_1 rfl rfl ?_
  refine ko_callVr lk_X2_77 dX2_reachedByDebts_2 (fn_creditors (d := d - 1) hP (by omega)) rfl rfl e0 rfl rfl (by omega) (by omega) (by omega) (Nat.le_of_ble_eq_true rfl) ?_
  refine ko_istore_n (i := 2) (lv' := [(0, _), (1, _), (2, _)]) dX2_reachedByDebts_5 rfl (by decide) rfl rfl rfl ?_
  refine ko_iconst (v := 0) dX2_reachedByDebts_6 (by decide) ?_
  refine ko_istore_n (i := 3) (lv' := [(0, _), (1, _), (2, _), (3, _)]) dX2_reachedByDebts_7 rfl (by decide) rfl rfl rfl ?_
  exact LOOP 5 0 rfl
