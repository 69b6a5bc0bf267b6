/-! ===== People: what its methods answer ===== -/
def hasI (n p : Int32) : Bool := !decide (p < 0) && (!decide (n ≤ p) && !decide (5 ≤ p))
def hbI (b p : Int32) : Bool := !decide (p < 0) && (!decide (5 ≤ p) && !decide ((b >>> (p &&& 31)) &&& 1 = 0))
theorem in5 {p : Int32} (h1 : ¬ p < 0) (h2 : ¬ 5 ≤ p) : vp_in p 5 := by
  obtain ⟨j, hj, e, -⟩ := pk_mu (L := 5) h1 h2 (by decide)
  rw [e]
  exact vp_in_nI hj (by decide)
theorem hasI_in {n p : Int32} (h : hasI n p = true) : vp_in p 5 := by
  simp only [hasI, Bool.and_eq_true, Bool.not_eq_true', decide_eq_false_iff_not] at h
  exact in5 h.1 h.2.2
set_option maxRecDepth 20000 in
theorem fn_has {G : kx_G} {d N a : Nat} {h : kx_H} {u : PU} {p : Int32} (hP : kP h a u) : kx_Fn mX2_has d 0 0 G [.ref a, .int p] N h (some (.int (kb (hasI (pN u) p))), N, h) := by
  refine kx_Fn_of rfl (Nat.le_of_ble_eq_true rfl) rfl ?_ (kx_self)
  obtain ⟨e0, e1, e2, e3, e4, e5⟩ := id hP
  refine ko_iload_n (i := 1) dX2_has_0 rfl rfl ?_
  refine ko_if_lt (tgt := 21) dX2_has_1 (by decide) (fun c_1 => ?_) (fun c_1 => ?_)
  · refine ko_iconst (v := 0) dX2_has_21 (by decide) ?_
    refine ko_zret dX2_has_22 rfl rfl (Nat.le_of_ble_eq_true rfl) (Nat.le_of_ble_eq_true rfl) ?_
    simp [kb, hasI, c_1]
  · refine ko_iload_n (i := 1) dX2_has_4 rfl rfl ?_
    refine ko_aload_n (i := 0) dX2_has_5 rfl rfl ?_
    refine ko_get fl_X2_33 dX2_has_6 e0 rfl ?_
    refine ko_icmp_ge (tgt := 21) dX2_has_9 (by decide) (fun c_9 => ?_) (fun c_9 => ?_)
    · refine ko_iconst (v := 0) dX2_has_21 (by decide) ?_
      refine ko_zret dX2_has_22 rfl rfl (Nat.le_of_ble_eq_true rfl) (Nat.le_of_ble_eq_true rfl) ?_
      simp [kb, hasI, c_1, c_9]
    · refine ko_iload_n (i := 1) dX2_has_12 rfl rfl ?_
      refine ko_iconst (v := 5) dX2_has_13 (by decide) ?_
      refine ko_icmp_ge (tgt := 21) dX2_has_14 (by decide) (fun c_14 => ?_) (fun c_14 => ?_)
      · refine ko_iconst (v := 0) dX2_has_21 (by decide) ?_
        refine ko_zret dX2_has_22 rfl rfl (Nat.le_of_ble_eq_true rfl) (Nat.le_of_ble_eq_true rfl) ?_
        simp [kb, hasI, c_1, c_9, c_14]
      · refine ko_iconst (v := 1) dX2_has_17 (by decide) ?_
        refine ko_goto (tgt := 22) dX2_has_18 (by decide) ?_
        refine ko_zret dX2_has_22 rfl rfl (Nat.le_of_ble_eq_true rfl) (Nat.le_of_ble_eq_true rfl) ?_
        simp [kb, hasI, c_1, c_9, c_14]
set_option maxRecDepth 20000 in
theorem fn_hasBit {G : kx_G} {d N : Nat} {h : kx_H} {b p : Int32} : kx_Fn mX4_hasBit d 0 0 G [.int b, .int p] N h (some (.int (kb (hbI b p))), N, h) := by
  refine kx_Fn_of rfl (Nat.le_of_ble_eq_true rfl) rfl ?_ (kx_self)
  refine ko_iload_n (i := 1) dX4_hasBit_0 rfl rfl ?_
  refine ko_if_lt (tgt := 21) dX4_hasBit_1 (by decide) (fun c_1 => ?_) (fun c_1 => ?_)
  · refine ko_iconst (v := 0) dX4_hasBit_21 (by decide) ?_
    refine ko_zret dX4_hasBit_22 rfl rfl (Nat.le_of_ble_eq_true rfl) (Nat.le_of_ble_eq_true rfl) ?_
    simp [kb, hbI, c_1]
  · refine ko_iload_n (i := 1) dX4_hasBit_4 rfl rfl ?_
    refine ko_iconst (v := 5) dX4_hasBit_5 (by decide) ?_
    refine ko_icmp_ge (tgt := 21) dX4_hasBit_6 (by decide) (fun c_6 => ?_) (fun c_6 => ?_)
    · refine ko_iconst (v := 0) dX4_hasBit_21 (by decide) ?_
      refine ko_zret dX4_hasBit_22 rfl rfl (Nat.le_of_ble_eq_true rfl) (Nat.le_of_ble_eq_true rfl) ?_
      simp [kb, hbI, c_1, c_6]
    · refine ko_iload_n (i := 0) dX4_hasBit_9 rfl rfl ?_
      refine ko_iload_n (i := 1) dX4_hasBit_10 rfl rfl ?_
      refine ko_ishr dX4_hasBit_11 ?_
      refine ko_iconst (v := 1) dX4_hasBit_12 (by decide) ?_
      refine ko_iand dX4_hasBit_13 ?_
      refine ko_if_eq (tgt := 21) dX4_hasBit_14 (by decide) (fun c_14 => ?_) (fun c_14 => ?_)
      · refine ko_iconst (v := 0) dX4_hasBit_21 (by decide) ?_
        refine ko_zret dX4_hasBit_22 rfl rfl (Nat.le_of_ble_eq_true rfl) (Nat.le_of_ble_eq_true rfl) ?_
        simp [kb, hbI, c_1, c_6, c_14]
      · refine ko_iconst (v := 1) dX4_hasBit_17 (by decide) ?_
        refine ko_goto (tgt := 22) dX4_hasBit_18 (by decide) ?_
        refine ko_zret dX4_hasBit_22 rfl rfl (Nat.le_of_ble_eq_true rfl) (Nat.le_of_ble_eq_true rfl) ?_
        simp [kb, hbI, c_1, c_6, c_14]
def evI (n : Int32) : Int32 := 1 <<< (n &&& 31) - 1
set_option maxRecDepth 20000 in
theorem fn_everyone {G : kx_G} {d N a : Nat} {h : kx_H} {u : PU} (hP : kP h a u) : kx_Fn mX2_everyone d 0 0 G [.ref a] N h (some (.int (evI (pN u))), N, h) := by
  refine kx_Fn_of rfl (Nat.le_of_ble_eq_true rfl) rfl ?_ (kx_self)
  obtain ⟨e0, e1, e2, e3, e4, e5⟩ := id hP
  refine ko_iconst (v := 1) dX2_everyone_0 (by decide) ?_
  refine ko_aload_n (i := 0) dX2_everyone_1 rfl rfl ?_
  refine ko_get fl_X2_33 dX2_everyone_2 e0 rfl ?_
  refine ko_ishl dX2_everyone_5 ?_
  refine ko_iconst (v := 1) dX2_everyone_6 (by decide) ?_
  refine ko_isub dX2_everyone_7 ?_
  refine ko_iret dX2_everyone_8 rfl (Nat.le_of_ble_eq_true rfl) (Nat.le_of_ble_eq_true rfl) ?_
  rfl
def unbI (u : PU) : Int32 := evI (pN u) &&& (pOp u ^^^ (-1))
set_option maxRecDepth 20000 in
theorem fn_unbereaved {G : kx_G} {d N a : Nat} {h : kx_H} {u : PU} (hP : kP h a u) (hd : 1 ≤ d) : kx_Fn mX2_unbereaved d 0 0 G [.ref a] N h (some (.int (unbI u)), N, h) := by
  refine kx_Fn_of rfl (Nat.le_of_ble_eq_true rfl) rfl ?_ (kx_self)
  obtain ⟨e0, e1, e2, e3, e4, e5⟩ := id hP
  refine ko_aload_n (i := 0) dX2_unbereaved_0 rfl rfl ?_
  refine ko_callVr lk_X2_46 dX2_unbereaved_1 (fn_everyone (d := d - 1) hP) rfl rfl e0 rfl rfl (by omega) (by omega) (by omega) (Nat.le_of_ble_eq_true rfl) ?_
  refine ko_aload_n (i := 0) dX2_unbereaved_4 rfl rfl ?_
  refine ko_get fl_X2_37 dX2_unbereaved_5 e0 rfl ?_
  refine ko_iconst (v := (-1)) dX2_unbereaved_8 (by decide) ?_
  refine ko_ixor dX2_unbereaved_9 ?_
  refine ko_iand dX2_unbereaved_10 ?_
  refine ko_iret dX2_unbereaved_11 rfl (Nat.le_of_ble_eq_true rfl) (Nat.le_of_ble_eq_true rfl) ?_
  rfl
set_option maxRecDepth 20000 in
theorem fn_isOpen {G : kx_G} {d N a : Nat} {h : kx_H} {u : PU} {p : Int32} (hP : kP h a u) (hd : 1 ≤ d) : kx_Fn mX2_isOpen d 0 0 G [.ref a, .int p] N h (some (.int (kb (hbI (pOp u) p))), N, h) := by
  refine kx_Fn_of rfl (Nat.le_of_ble_eq_true rfl) rfl ?_ (kx_self)
  obtain ⟨e0, e1, e2, e3, e4, e5⟩ := id hP
  refine ko_aload_n (i := 0) dX2_isOpen_0 rfl rfl ?_
  refine ko_get fl_X2_37 dX2_isOpen_1 e0 rfl ?_
  refine ko_iload_n (i := 1) dX2_isOpen_4 rfl rfl ?_
  refine ko_callSNr lk_X2_50 dX2_isOpen_5 (fn_hasBit (d := d - 1)) rfl rfl (by omega) (by omega) (by omega) (Nat.le_of_ble_eq_true rfl) ?_
  refine ko_zret dX2_isOpen_8 rfl (kb_z _) (Nat.le_of_ble_eq_true rfl) (Nat.le_of_ble_eq_true rfl) ?_
  rfl
def arkI (u : PU) (p q : Int32) : Bool := hasI (pN u) p && hbI (pKn u p.toNatClampNeg) q
set_option maxRecDepth 20000 in
theorem fn_areKin {G : kx_G} {d N a : Nat} {h : kx_H} {u : PU} {p q : Int32} (hP : kP h a u) (hd : 1 ≤ d) : kx_Fn mX2_areKin d 0 0 G [.ref a, .int p, .int q] N h (some (.int (kb (arkI u p q))), N, h) := by
  refine kx_Fn_of rfl (Nat.le_of_ble_eq_true rfl) rfl ?_ (kx_self)
  obtain ⟨e0, e1, e2, e3, e4, e5⟩ := id hP
  refine ko_aload_n (i := 0) dX2_areKin_0 rfl rfl ?_
  refine ko_iload_n (i := 1) dX2_areKin_1 rfl rfl ?_
  refine ko_callVr lk_X2_54 dX2_areKin_2 (fn_has (d := d - 1) hP) rfl rfl e0 rfl rfl (by omega) (by omega) (by omega) (Nat.le_of_ble_eq_true rfl) ?_
  first | refine ko_ifb_eq (tgt := 25) dX2_areKin_5 (by decide) (fun c_5 => ?_) (fun c_5 => ?_) | refine ko_if_eq (tgt := 25) dX2_areKin_5 (by decide) (fun c_5 => ?_) (fun c_5 => ?_)
  · refine ko_iconst (v := 0) dX2_areKin_25 (by decide) ?_
    refine ko_zret dX2_areKin_26 rfl rfl (Nat.le_of_ble_eq_true rfl) (Nat.le_of_ble_eq_true rfl) ?_
    simp [kb, arkI, c_5]
  · have i5 := hasI_in c_5
    refine ko_aload_n (i := 0) dX2_areKin_8 rfl rfl ?_
    refine ko_get fl_X2_21 dX2_areKin_9 e0 rfl ?_
    refine ko_iload_n (i := 1) dX2_areKin_12 rfl rfl ?_
    refine ko_iald dX2_areKin_13 e4 (by assumption) ?_
    refine ko_iload_n (i := 2) dX2_areKin_14 rfl rfl ?_
    refine ko_callSNr lk_X2_50 dX2_areKin_15 (fn_hasBit (d := d - 1)) rfl rfl (by omega) (by omega) (by omega) (Nat.le_of_ble_eq_true rfl) ?_
    first | refine ko_ifb_eq (tgt := 25) dX2_areKin_18 (by decide) (fun c_18 => ?_) (fun c_18 => ?_) | refine ko_if_eq (tgt := 25) dX2_areKin_18 (by decide) (fun c_18 => ?_) (fun c_18 => ?_)
    · refine ko_iconst (v := 0) dX2_areKin_25 (by decide) ?_
      refine ko_zret dX2_areKin_26 rfl rfl (Nat.le_of_ble_eq_true rfl) (Nat.le_of_ble_eq_true rfl) ?_
      simp [kb, arkI, c_5, c_18]
    · refine ko_iconst (v := 1) dX2_areKin_21 (by decide) ?_
      refine ko_goto (tgt := 26) dX2_areKin_22 (by decide) ?_
      refine ko_zret dX2_areKin_26 rfl rfl (Nat.le_of_ble_eq_true rfl) (Nat.le_of_ble_eq_true rfl) ?_
      simp [kb, arkI, c_5, c_18]
def ozI (u : PU) (p : Int32) : Int32 := if hasI (pN u) p = false then 0 else if pKd u p.toNatClampNeg = 3 then 0 else if pKd u p.toNatClampNeg = 2 then pSo u p.toNatClampNeg / 2 else if ¬ 2 ≤ pAg u p.toNatClampNeg then 0 else if pKd u p.toNatClampNeg = 1 then pSo u p.toNatClampNeg / 4 else pSo u p.toNatClampNeg / 3
set_option maxRecDepth 20000 in
theorem fn_ounces {G : kx_G} {d N a : Nat} {h : kx_H} {u : PU} {p : Int32} (hP : kP h a u) (hd : 1 ≤ d) : kx_Fn mX2_ounces d 0 0 G [.ref a, .int p] N h (some (.int (ozI u p)), N, h) := by
  refine kx_Fn_of rfl (Nat.le_of_ble_eq_true rfl) rfl ?_ (kx_self)
  obtain ⟨e0, e1, e2, e3, e4, e5⟩ := id hP
  refine ko_aload_n (i := 0) dX2_ounces_0 rfl rfl ?_
  refine ko_iload_n (i := 1) dX2_ounces_1 rfl rfl ?_
  refine ko_callVr lk_X2_54 dX2_ounces_2 (fn_has (d := d - 1) hP) rfl rfl e0 rfl rfl (by omega) (by omega) (by omega) (Nat.le_of_ble_eq_true rfl) ?_
  first | refine ko_ifb_eq (tgt := 18) dX2_ounces_5 (by decide) (fun c_5 => ?_) (fun c_5 => ?_) | refine ko_if_eq (tgt := 18) dX2_ounces_5 (by decide) (fun c_5 => ?_) (fun c_5 => ?_)
  · refine ko_iconst (v := 0) dX2_ounces_18 (by decide) ?_
    refine ko_iret dX2_ounces_19 rfl (Nat.le_of_ble_eq_true rfl) (Nat.le_of_ble_eq_true rfl) ?_
    simp [kb, ozI, c_5]
  · have i5 := hasI_in c_5
    refine ko_aload_n (i := 0) dX2_ounces_8 rfl rfl ?_
    refine ko_get fl_X2_18 dX2_ounces_9 e0 rfl ?_
    refine ko_iload_n (i := 1) dX2_ounces_12 rfl rfl ?_
    first | refine ko_iald dX2_ounces_13 e1 (by assumption) ?_ | refine ko_iald dX2_ounces_13 e2 (by assumption) ?_ | refine ko_iald dX2_ounces_13 e3 (by assumption) ?_ | refine ko_iald dX2_ounces_13 e4 (by assumption) ?_ | refine ko_iald dX2_ounces_13 e5 (by assumption) ?_
    refine ko_iconst (v := 3) dX2_ounces_14 (by decide) ?_
    refine ko_icmp_ne (tgt := 20) dX2_ounces_15 (by decide) (fun c_15 => ?_) (fun c_15 => ?_)
    · refine ko_aload_n (i := 0) dX2_ounces_20 rfl rfl ?_
      refine ko_get fl_X2_18 dX2_ounces_21 e0 rfl ?_
      refine ko_iload_n (i := 1) dX2_ounces_24 rfl rfl ?_
      first | refine ko_iald dX2_ounces_25 e1 (by assumption) ?_ | refine ko_iald dX2_ounces_25 e2 (by assumption) ?_ | refine ko_iald dX2_ounces_25 e3 (by assumption) ?_ | refine ko_iald dX2_ounces_25 e4 (by assumption) ?_ | refine ko_iald dX2_ounces_25 e5 (by assumption) ?_
      refine ko_iconst (v := 2) dX2_ounces_26 (by decide) ?_
      refine ko_icmp_ne (tgt := 39) dX2_ounces_27 (by decide) (fun c_27 => ?_) (fun c_27 => ?_)
      · refine ko_aload_n (i := 0) dX2_ounces_39 rfl rfl ?_
        refine ko_get fl_X2_15 dX2_ounces_40 e0 rfl ?_
        refine ko_iload_n (i := 1) dX2_ounces_43 rfl rfl ?_
        first | refine ko_iald dX2_ounces_44 e1 (by assumption) ?_ | refine ko_iald dX2_ounces_44 e2 (by assumption) ?_ | refine ko_iald dX2_ounces_44 e3 (by assumption) ?_ | refine ko_iald dX2_ounces_44 e4 (by assumption) ?_ | refine ko_iald dX2_ounces_44 e5 (by assumption) ?_
        refine ko_iconst (v := 2) dX2_ounces_45 (by decide) ?_
        refine ko_icmp_ge (tgt := 51) dX2_ounces_46 (by decide) (fun c_46 => ?_) (fun c_46 => ?_)
        · refine ko_aload_n (i := 0) dX2_ounces_51 rfl rfl ?_
          refine ko_get fl_X2_9 dX2_ounces_52 e0 rfl ?_
          refine ko_iload_n (i := 1) dX2_ounces_55 rfl rfl ?_
          first | refine ko_iald dX2_ounces_56 e1 (by assumption) ?_ | refine ko_iald dX2_ounces_56 e2 (by assumption) ?_ | refine ko_iald dX2_ounces_56 e3 (by assumption) ?_ | refine ko_iald dX2_ounces_56 e4 (by assumption) ?_ | refine ko_iald dX2_ounces_56 e5 (by assumption) ?_
          refine ko_aload_n (i := 0) dX2_ounces_57 rfl rfl ?_
          refine ko_get fl_X2_18 dX2_ounces_58 e0 rfl ?_
          refine ko_iload_n (i := 1) dX2_ounces_61 rfl rfl ?_
          first | refine ko_iald dX2_ounces_62 e1 (by assumption) ?_ | refine ko_iald dX2_ounces_62 e2 (by assumption) ?_ | refine ko_iald dX2_ounces_62 e3 (by assumption) ?_ | refine ko_iald dX2_ounces_62 e4 (by assumption) ?_ | refine ko_iald dX2_ounces_62 e5 (by assumption) ?_
          refine ko_iconst (v := 1) dX2_ounces_63 (by decide) ?_
          refine ko_icmp_ne (tgt := 71) dX2_ounces_64 (by decide) (fun c_64 => ?_) (fun c_64 => ?_)
          · refine ko_iconst (v := 3) dX2_ounces_71 (by decide) ?_
            refine ko_idiv dX2_ounces_72 (by decide) ?_
            refine ko_iret dX2_ounces_73 rfl (Nat.le_of_ble_eq_true rfl) (Nat.le_of_ble_eq_true rfl) ?_
            simp [kb, ozI, c_5, c_15, c_27, c_46, c_64]
          · refine ko_iconst (v := 4) dX2_ounces_67 (by decide) ?_
            refine ko_goto (tgt := 72) dX2_ounces_68 (by decide) ?_
            refine ko_idiv dX2_ounces_72 (by decide) ?_
            refine ko_iret dX2_ounces_73 rfl (Nat.le_of_ble_eq_true rfl) (Nat.le_of_ble_eq_true rfl) ?_
            simp [kb, ozI, c_5, c_15, c_27, c_46, c_64]
        · refine ko_iconst (v := 0) dX2_ounces_49 (by decide) ?_
          refine ko_iret dX2_ounces_50 rfl (Nat.le_of_ble_eq_true rfl) (Nat.le_of_ble_eq_true rfl) ?_
          simp [kb, ozI, c_5, c_15, c_27, c_46]
      · refine ko_aload_n (i := 0) dX2_ounces_30 rfl rfl ?_
        refine ko_get fl_X2_9 dX2_ounces_31 e0 rfl ?_
        refine ko_iload_n (i := 1) dX2_ounces_34 rfl rfl ?_
        first | refine ko_iald dX2_ounces_35 e1 (by assumption) ?_ | refine ko_iald dX2_ounces_35 e2 (by assumption) ?_ | refine ko_iald dX2_ounces_35 e3 (by assumption) ?_ | refine ko_iald dX2_ounces_35 e4 (by assumption) ?_ | refine ko_iald dX2_ounces_35 e5 (by assumption) ?_
        refine ko_iconst (v := 2) dX2_ounces_36 (by decide) ?_
        refine ko_idiv dX2_ounces_37 (by decide) ?_
        refine ko_iret dX2_ounces_38 rfl (Nat.le_of_ble_eq_true rfl) (Nat.le_of_ble_eq_true rfl) ?_
        simp [kb, ozI, c_5, c_15, c_27]
    · refine ko_iconst (v := 0) dX2_ounces_18 (by decide) ?_
      refine ko_iret dX2_ounces_19 rfl (Nat.le_of_ble_eq_true rfl) (Nat.le_of_ble_eq_true rfl) ?_
      simp [kb, ozI, c_5, c_15]
def fitI (u : PU) (p q : Int32) : Bool := !decide (ozI u p < 1) && !arkI u p q
set_option maxRecDepth 20000 in
theorem fn_isFitFor {G : kx_G} {d N a : Nat} {h : kx_H} {u : PU} {p q : Int32} (hP : kP h a u) (hd : 2 ≤ d) : kx_Fn mX2_isFitFor d 0 0 G [.ref a, .int p, .int q] N h (some (.int (kb (fitI u p q))), N, h) := by
  refine kx_Fn_of rfl (Nat.le_of_ble_eq_true rfl) rfl ?_ (kx_self)
  obtain ⟨e0, e1, e2, e3, e4, e5⟩ := id hP
  refine ko_aload_n (i := 0) dX2_isFitFor_0 rfl rfl ?_
  refine ko_iload_n (i := 1) dX2_isFitFor_1 rfl rfl ?_
  refine ko_callVr lk_X2_58 dX2_isFitFor_2 (fn_ounces (d := d - 1) hP (by omega)) rfl rfl e0 rfl rfl (by omega) (by omega) (by omega) (Nat.le_of_ble_eq_true rfl) ?_
  refine ko_iconst (v := 1) dX2_isFitFor_5 (by decide) ?_
  refine ko_icmp_lt (tgt := 22) dX2_isFitFor_6 (by decide) (fun c_6 => ?_) (fun c_6 => ?_)
  · refine ko_iconst (v := 0) dX2_isFitFor_22 (by decide) ?_
    refine ko_zret dX2_isFitFor_23 rfl rfl (Nat.le_of_ble_eq_true rfl) (Nat.le_of_ble_eq_true rfl) ?_
    simp [kb, fitI, c_6]
  · refine ko_aload_n (i := 0) dX2_isFitFor_9 rfl rfl ?_
    refine ko_iload_n (i := 1) dX2_isFitFor_10 rfl rfl ?_
    refine ko_iload_n (i := 2) dX2_isFitFor_11 rfl rfl ?_
    refine ko_callVr lk_X2_62 dX2_isFitFor_12 (fn_areKin (d := d - 1) hP (by omega)) rfl rfl e0 rfl rfl (by omega) (by omega) (by omega) (Nat.le_of_ble_eq_true rfl) ?_
    first | refine ko_ifb_ne (tgt := 22) dX2_isFitFor_15 (by decide) (fun c_15 => ?_) (fun c_15 => ?_) | refine ko_if_ne (tgt := 22) dX2_isFitFor_15 (by decide) (fun c_15 => ?_) (fun c_15 => ?_)
    · refine ko_iconst (v := 0) dX2_isFitFor_22 (by decide) ?_
      refine ko_zret dX2_isFitFor_23 rfl rfl (Nat.le_of_ble_eq_true rfl) (Nat.le_of_ble_eq_true rfl) ?_
      simp [kb, fitI, c_6, c_15]
    · refine ko_iconst (v := 1) dX2_isFitFor_18 (by decide) ?_
      refine ko_goto (tgt := 23) dX2_isFitFor_19 (by decide) ?_
      refine ko_zret dX2_isFitFor_23 rfl rfl (Nat.le_of_ble_eq_true rfl) (Nat.le_of_ble_eq_true rfl) ?_
      simp [kb, fitI, c_6, c_15]
def mayI (u : PU) (p q : Int32) : Bool := hbI (pOp u) q && (!hbI (pOp u) p && fitI u p q)
set_option maxRecDepth 20000 in
theorem fn_mayWeep {G : kx_G} {d N a : Nat} {h : kx_H} {u : PU} {p q : Int32} (hP : kP h a u) (hd : 3 ≤ d) : kx_Fn mX2_mayWeep d 0 0 G [.ref a, .int p, .int q] N h (some (.int (kb (mayI u p q))), N, h) := by
  refine kx_Fn_of rfl (Nat.le_of_ble_eq_true rfl) rfl ?_ (kx_self)
  obtain ⟨e0, e1, e2, e3, e4, e5⟩ := id hP
  refine ko_aload_n (i := 0) dX2_mayWeep_0 rfl rfl ?_
  refine ko_iload_n (i := 2) dX2_mayWeep_1 rfl rfl ?_
  refine ko_callVr lk_X2_65 dX2_mayWeep_2 (fn_isOpen (d := d - 1) hP (by omega)) rfl rfl e0 rfl rfl (by omega) (by omega) (by omega) (Nat.le_of_ble_eq_true rfl) ?_
  first | refine ko_ifb_eq (tgt := 29) dX2_mayWeep_5 (by decide) (fun c_5 => ?_) (fun c_5 => ?_) | refine ko_if_eq (tgt := 29) dX2_mayWeep_5 (by decide) (fun c_5 => ?_) (fun c_5 => ?_)
  · refine ko_iconst (v := 0) dX2_mayWeep_29 (by decide) ?_
    refine ko_zret dX2_mayWeep_30 rfl rfl (Nat.le_of_ble_eq_true rfl) (Nat.le_of_ble_eq_true rfl) ?_
    simp [kb, mayI, c_5]
  · refine ko_aload_n (i := 0) dX2_mayWeep_8 rfl rfl ?_
    refine ko_iload_n (i := 1) dX2_mayWeep_9 rfl rfl ?_
    refine ko_callVr lk_X2_65 dX2_mayWeep_10 (fn_isOpen (d := d - 1) hP (by omega)) rfl rfl e0 rfl rfl (by omega) (by omega) (by omega) (Nat.le_of_ble_eq_true rfl) ?_
    first | refine ko_ifb_ne (tgt := 29) dX2_mayWeep_13 (by decide) (fun c_13 => ?_) (fun c_13 => ?_) | refine ko_if_ne (tgt := 29) dX2_mayWeep_13 (by decide) (fun c_13 => ?_) (fun c_13 => ?_)
    · refine ko_iconst (v := 0) dX2_mayWeep_29 (by decide) ?_
      refine ko_zret dX2_mayWeep_30 rfl rfl (Nat.le_of_ble_eq_true rfl) (Nat.le_of_ble_eq_true rfl) ?_
      simp [kb, mayI, c_5, c_13]
    · refine ko_aload_n (i := 0) dX2_mayWeep_16 rfl rfl ?_
      refine ko_iload_n (i := 1) dX2_mayWeep_17 rfl rfl ?_
      refine ko_iload_n (i := 2) dX2_mayWeep_18 rfl rfl ?_
      refine ko_callVr lk_X2_68 dX2_mayWeep_19 (fn_isFitFor (d := d - 1) hP (by omega)) rfl rfl e0 rfl rfl (by omega) (by omega) (by omega) (Nat.le_of_ble_eq_true rfl) ?_
      first | refine ko_ifb_eq (tgt := 29) dX2_mayWeep_22 (by decide) (fun c_22 => ?_) (fun c_22 => ?_) | refine ko_if_eq (tgt := 29) dX2_mayWeep_22 (by decide) (fun c_22 => ?_) (fun c_22 => ?_)
      · refine ko_iconst (v := 0) dX2_mayWeep_29 (by decide) ?_
        refine ko_zret dX2_mayWeep_30 rfl rfl (Nat.le_of_ble_eq_true rfl) (Nat.le_of_ble_eq_true rfl) ?_
        simp [kb, mayI, c_5, c_13, c_22]
      · refine ko_iconst (v := 1) dX2_mayWeep_25 (by decide) ?_
        refine ko_goto (tgt := 30) dX2_mayWeep_26 (by decide) ?_
        refine ko_zret dX2_mayWeep_30 rfl rfl (Nat.le_of_ble_eq_true rfl) (Nat.le_of_ble_eq_true rfl) ?_
        simp [kb, mayI, c_5, c_13, c_22]
def onyI (u : PU) (p q : Int32) : Bool := hasI (pN u) p && (hbI (pOp u) q && (!hbI (pOp u) p && !arkI u p q))
set_option maxRecDepth 20000 in
theorem fn_mayUseOnions {G : kx_G} {d N a : Nat} {h : kx_H} {u : PU} {p q : Int32} (hP : kP h a u) (hd : 2 ≤ d) : kx_Fn mX2_mayUseOnions d 0 0 G [.ref a, .int p, .int q] N h (some (.int (kb (onyI u p q))), N, h) := by
  refine kx_Fn_of rfl (Nat.le_of_ble_eq_true rfl) rfl ?_ (kx_self)
  obtain ⟨e0, e1, e2, e3, e4, e5⟩ := id hP
  refine ko_aload_n (i := 0) dX2_mayUseOnions_0 rfl rfl ?_
  refine ko_iload_n (i := 1) dX2_mayUseOnions_1 rfl rfl ?_
  refine ko_callVr lk_X2_54 dX2_mayUseOnions_2 (fn_has (d := d - 1) hP) rfl rfl e0 rfl rfl (by omega) (by omega) (by omega) (Nat.le_of_ble_eq_true rfl) ?_
  first | refine ko_ifb_eq (tgt := 37) dX2_mayUseOnions_5 (by decide) (fun c_5 => ?_) (fun c_5 => ?_) | refine ko_if_eq (tgt := 37) dX2_mayUseOnions_5 (by decide) (fun c_5 => ?_) (fun c_5 => ?_)
  · refine ko_iconst (v := 0) dX2_mayUseOnions_37 (by decide) ?_
    refine ko_zret dX2_mayUseOnions_38 rfl rfl (Nat.le_of_ble_eq_true rfl) (Nat.le_of_ble_eq_true rfl) ?_
    simp [kb, onyI, c_5]
  · refine ko_aload_n (i := 0) dX2_mayUseOnions_8 rfl rfl ?_
    refine ko_iload_n (i := 2) dX2_mayUseOnions_9 rfl rfl ?_
    refine ko_callVr lk_X2_65 dX2_mayUseOnions_10 (fn_isOpen (d := d - 1) hP (by omega)) rfl rfl e0 rfl rfl (by omega) (by omega) (by omega) (Nat.le_of_ble_eq_true rfl) ?_
    first | refine ko_ifb_eq (tgt := 37) dX2_mayUseOnions_13 (by decide) (fun c_13 => ?_) (fun c_13 => ?_) | refine ko_if_eq (tgt := 37) dX2_mayUseOnions_13 (by decide) (fun c_13 => ?_) (fun c_13 => ?_)
    · refine ko_iconst (v := 0) dX2_mayUseOnions_37 (by decide) ?_
      refine ko_zret dX2_mayUseOnions_38 rfl rfl (Nat.le_of_ble_eq_true rfl) (Nat.le_of_ble_eq_true rfl) ?_
      simp [kb, onyI, c_5, c_13]
    · refine ko_aload_n (i := 0) dX2_mayUseOnions_16 rfl rfl ?_
      refine ko_iload_n (i := 1) dX2_mayUseOnions_17 rfl rfl ?_
      refine ko_callVr lk_X2_65 dX2_mayUseOnions_18 (fn_isOpen (d := d - 1) hP (by omega)) rfl rfl e0 rfl rfl (by omega) (by omega) (by omega) (Nat.le_of_ble_eq_true rfl) ?_
      first | refine ko_ifb_ne (tgt := 37) dX2_mayUseOnions_21 (by decide) (fun c_21 => ?_) (fun c_21 => ?_) | refine ko_if_ne (tgt := 37) dX2_mayUseOnions_21 (by decide) (fun c_21 => ?_) (fun c_21 => ?_)
      · refine ko_iconst (v := 0) dX2_mayUseOnions_37 (by decide) ?_
        refine ko_zret dX2_mayUseOnions_38 rfl rfl (Nat.le_of_ble_eq_true rfl) (Nat.le_of_ble_eq_true rfl) ?_
        simp [kb, onyI, c_5, c_13, c_21]
      · refine ko_aload_n (i := 0) dX2_mayUseOnions_24 rfl rfl ?_
        refine ko_iload_n (i := 1) dX2_mayUseOnions_25 rfl rfl ?_
        refine ko_iload_n (i := 2) dX2_mayUseOnions_26 rfl rfl ?_
        refine ko_callVr lk_X2_62 dX2_mayUseOnions_27 (fn_areKin (d := d - 1) hP (by omega)) rfl rfl e0 rfl rfl (by omega) (by omega) (by omega) (Nat.le_of_ble_eq_true rfl) ?_
        first | refine ko_ifb_ne (tgt := 37) dX2_mayUseOnions_30 (by decide) (fun c_30 => ?_) (fun c_30 => ?_) | refine ko_if_ne (tgt := 37) dX2_mayUseOnions_30 (by decide) (fun c_30 => ?_) (fun c_30 => ?_)
        · refine ko_iconst (v := 0) dX2_mayUseOnions_37 (by decide) ?_
          refine ko_zret dX2_mayUseOnions_38 rfl rfl (Nat.le_of_ble_eq_true rfl) (Nat.le_of_ble_eq_true rfl) ?_
          simp [kb, onyI, c_5, c_13, c_21, c_30]
        · refine ko_iconst (v := 1) dX2_mayUseOnions_33 (by decide) ?_
          refine ko_goto (tgt := 38) dX2_mayUseOnions_34 (by decide) ?_
          refine ko_zret dX2_mayUseOnions_38 rfl rfl (Nat.le_of_ble_eq_true rfl) (Nat.le_of_ble_eq_true rfl) ?_
          simp [kb, onyI, c_5, c_13, c_21, c_30]
def lsI (u : PU) (p : Int32) : Int32 := if hasI (pN u) p = true then (evI (pN u) &&& (pKn u p.toNatClampNeg ^^^ (-1))) &&& (-((2 : Int32) <<< (p &&& 31))) else 0
set_option maxRecDepth 20000 in
theorem fn_laterStrangers {G : kx_G} {d N a : Nat} {h : kx_H} {u : PU} {p : Int32} (hP : kP h a u) (hd : 1 ≤ d) : kx_Fn mX2_laterStrangers d 0 0 G [.ref a, .int p] N h (some (.int (lsI u p)), N, h) := by
  refine kx_Fn_of rfl (Nat.le_of_ble_eq_true rfl) rfl ?_ (kx_self)
  obtain ⟨e0, e1, e2, e3, e4, e5⟩ := id hP
  refine ko_aload_n (i := 0) dX2_laterStrangers_0 rfl rfl ?_
  refine ko_iload_n (i := 1) dX2_laterStrangers_1 rfl rfl ?_
  refine ko_callVr lk_X2_54 dX2_laterStrangers_2 (fn_has (d := d - 1) hP) rfl rfl e0 rfl rfl (by omega) (by omega) (by omega) (Nat.le_of_ble_eq_true rfl) ?_
  first | refine ko_ifb_eq (tgt := 29) dX2_laterStrangers_5 (by decide) (fun c_5 => ?_) (fun c_5 => ?_) | refine ko_if_eq (tgt := 29) dX2_laterStrangers_5 (by decide) (fun c_5 => ?_) (fun c_5 => ?_)
  · refine ko_iconst (v := 0) dX2_laterStrangers_29 (by decide) ?_
    refine ko_iret dX2_laterStrangers_30 rfl (Nat.le_of_ble_eq_true rfl) (Nat.le_of_ble_eq_true rfl) ?_
    simp [kb, lsI, c_5]
  · have i5 := hasI_in c_5
    refine ko_aload_n (i := 0) dX2_laterStrangers_8 rfl rfl ?_
    refine ko_callVr lk_X2_46 dX2_laterStrangers_9 (fn_everyone (d := d - 1) hP) rfl rfl e0 rfl rfl (by omega) (by omega) (by omega) (Nat.le_of_ble_eq_true rfl) ?_
    refine ko_aload_n (i := 0) dX2_laterStrangers_12 rfl rfl ?_
    refine ko_get fl_X2_21 dX2_laterStrangers_13 e0 rfl ?_
    refine ko_iload_n (i := 1) dX2_laterStrangers_16 rfl rfl ?_
    refine ko_iald dX2_laterStrangers_17 e4 (by assumption) ?_
    refine ko_iconst (v := (-1)) dX2_laterStrangers_18 (by decide) ?_
    refine ko_ixor dX2_laterStrangers_19 ?_
    refine ko_iand dX2_laterStrangers_20 ?_
    refine ko_iconst (v := 2) dX2_laterStrangers_21 (by decide) ?_
    refine ko_iload_n (i := 1) dX2_laterStrangers_22 rfl rfl ?_
    refine ko_ishl dX2_laterStrangers_23 ?_
    refine ko_ineg dX2_laterStrangers_24 ?_
    refine ko_iand dX2_laterStrangers_25 ?_
    refine ko_goto (tgt := 30) dX2_laterStrangers_26 (by decide) ?_
    refine ko_iret dX2_laterStrangers_30 rfl (Nat.le_of_ble_eq_true rfl) (Nat.le_of_ble_eq_true rfl) ?_
    simp [kb, lsI, c_5]
