/-! ===== LandText: the text, read ===== -/
abbrev klo (l : Nat) (n : Int32) : va_E := .inr (1, [.ref (l + 1), .ref (l + 2), .int n])
abbrev kl_a (T : Nat → Int32) : va_E := .inl (0, 48, .inl T)
def ltI (T : Nat → Int32) (n p : Int32) : Int32 := if p < 0 then -1 else if n ≤ p then -1 else if 48 ≤ p then -1 else T p.toNatClampNeg
def dgI (T : Nat → Int32) (n p : Int32) : Int32 := if ltI T n p < 48 then -1 else if 57 < ltI T n p then -1 else ltI T n p - 48
theorem in48 {p : Int32} (h1 : ¬ p < 0) (h2 : ¬ 48 ≤ p) : vp_in p 48 := by
  obtain ⟨j, hj, e, -⟩ := pk_mu (L := 48) h1 h2 (by decide)
  rw [e]
  exact vp_in_nI hj (by decide)
set_option maxRecDepth 20000 in
theorem fn_letterAt {G : kx_G} {d N l : Nat} {h : kx_H} {T : Nat → Int32} {n : Int32} {p : Int32} (e0 : h l = some (klo l n)) (e1 : h (l + 1) = some (kl_a T)) : kx_Fn mX1_letterAt d 0 0 G [.ref l, .int p] N h (some (.int (ltI T n p)), N, h) := by
  refine kx_Fn_of rfl (Nat.le_of_ble_eq_true rfl) rfl ?_ (kx_self)
  refine ko_iload_n (i := 1) dX1_letterAt_0 rfl rfl ?_
  refine ko_if_lt (tgt := 27) dX1_letterAt_1 (by decide) (fun c_1 => ?_) (fun c_1 => ?_)
  · refine ko_iconst (v := (-1)) dX1_letterAt_27 (by decide) ?_
    refine ko_iret dX1_letterAt_28 rfl (Nat.le_of_ble_eq_true rfl) (Nat.le_of_ble_eq_true rfl) ?_
    simp [ltI, c_1]
  · refine ko_iload_n (i := 1) dX1_letterAt_4 rfl rfl ?_
    refine ko_aload_n (i := 0) dX1_letterAt_5 rfl rfl ?_
    refine ko_get fl_X1_22 dX1_letterAt_6 e0 rfl ?_
    refine ko_icmp_ge (tgt := 27) dX1_letterAt_9 (by decide) (fun c_9 => ?_) (fun c_9 => ?_)
    · refine ko_iconst (v := (-1)) dX1_letterAt_27 (by decide) ?_
      refine ko_iret dX1_letterAt_28 rfl (Nat.le_of_ble_eq_true rfl) (Nat.le_of_ble_eq_true rfl) ?_
      simp [ltI, c_1, c_9]
    · refine ko_iload_n (i := 1) dX1_letterAt_12 rfl rfl ?_
      refine ko_bipush (v := 48) dX1_letterAt_13 (by decide) ?_
      refine ko_icmp_ge (tgt := 27) dX1_letterAt_15 (by decide) (fun c_15 => ?_) (fun c_15 => ?_)
      · refine ko_iconst (v := (-1)) dX1_letterAt_27 (by decide) ?_
        refine ko_iret dX1_letterAt_28 rfl (Nat.le_of_ble_eq_true rfl) (Nat.le_of_ble_eq_true rfl) ?_
        simp [ltI, c_1, c_9, c_15]
      · refine ko_aload_n (i := 0) dX1_letterAt_18 rfl rfl ?_
        refine ko_get fl_X1_9 dX1_letterAt_19 e0 rfl ?_
        refine ko_iload_n (i := 1) dX1_letterAt_22 rfl rfl ?_
        refine ko_iald dX1_letterAt_23 e1 (in48 c_1 c_15) ?_
        refine ko_goto (tgt := 28) dX1_letterAt_24 (by decide) ?_
        refine ko_iret dX1_letterAt_28 rfl (Nat.le_of_ble_eq_true rfl) (Nat.le_of_ble_eq_true rfl) ?_
        simp [ltI, c_1, c_9, c_15]
set_option maxRecDepth 20000 in
theorem fn_digitAt {G : kx_G} {d N l : Nat} {h : kx_H} {T : Nat → Int32} {n : Int32} {p : Int32} (e0 : h l = some (klo l n)) (e1 : h (l + 1) = some (kl_a T)) (hd : 1 ≤ d) : kx_Fn mX1_digitAt d 0 0 G [.ref l, .int p] N h (some (.int (dgI T n p)), N, h) := by
  refine kx_Fn_of rfl (Nat.le_of_ble_eq_true rfl) rfl ?_ (kx_self)
  refine ko_aload_n (i := 0) dX1_digitAt_0 rfl rfl ?_
  refine ko_iload_n (i := 1) dX1_digitAt_1 rfl rfl ?_
  refine ko_callVr lk_X1_29 dX1_digitAt_2 (fn_letterAt (d := d - 1) e0 e1) rfl rfl e0 rfl rfl (by omega) (by omega) (by omega) (Nat.le_of_ble_eq_true rfl) ?_
  refine ko_istore_n (i := 2) (lv' := [(0, _), (1, _), (2, _)]) dX1_digitAt_5 rfl (by decide) rfl rfl rfl ?_
  refine ko_iload_n (i := 2) dX1_digitAt_6 rfl rfl ?_
  refine ko_bipush (v := 48) dX1_digitAt_7 (by decide) ?_
  refine ko_icmp_lt (tgt := 25) dX1_digitAt_9 (by decide) (fun c_9 => ?_) (fun c_9 => ?_)
  · refine ko_iconst (v := (-1)) dX1_digitAt_25 (by decide) ?_
    refine ko_iret dX1_digitAt_26 rfl (Nat.le_of_ble_eq_true rfl) (Nat.le_of_ble_eq_true rfl) ?_
    simp [dgI, c_9]
  · refine ko_iload_n (i := 2) dX1_digitAt_12 rfl rfl ?_
    refine ko_bipush (v := 57) dX1_digitAt_13 (by decide) ?_
    refine ko_icmp_gt (tgt := 25) dX1_digitAt_15 (by decide) (fun c_15 => ?_) (fun c_15 => ?_)
    · refine ko_iconst (v := (-1)) dX1_digitAt_25 (by decide) ?_
      refine ko_iret dX1_digitAt_26 rfl (Nat.le_of_ble_eq_true rfl) (Nat.le_of_ble_eq_true rfl) ?_
      simp [dgI, c_9, c_15]
    · refine ko_iload_n (i := 2) dX1_digitAt_18 rfl rfl ?_
      refine ko_bipush (v := 48) dX1_digitAt_19 (by decide) ?_
      refine ko_isub dX1_digitAt_21 ?_
      refine ko_goto (tgt := 26) dX1_digitAt_22 (by decide) ?_
      refine ko_iret dX1_digitAt_26 rfl (Nat.le_of_ble_eq_true rfl) (Nat.le_of_ble_eq_true rfl) ?_
      simp [dgI, c_9, c_15]
def iplB (u : PU) : Bool := (List.range 5).any (fun i => !decide (lsI u (nI i) = 0))
set_option maxRecDepth 20000 in
theorem fn_isPairLeft {G : kx_G} {d N l : Nat} {h : kx_H} {n : Int32} {u : PU} (e0 : h l = some (klo l n)) (hP : kP h (l + 2) u) (hd : 2 ≤ d) : kx_Fn mX1_isPairLeft d 0 0 G [.ref l] N h (some (.int (kb (iplB u))), N, h) := by
  refine kx_Fn_of rfl (Nat.le_of_ble_eq_true rfl) rfl ?_ (kx_self)
  have LOOP : ∀ (k i : Nat), k + i = 5 → (∀ j, j < i → lsI u (nI j) = 0) → kx_Ok mX1_isPairLeft d 0 0 G 0 0 2 [(0, .ref l), (1, .int (nI i))] [] N h (some (.int (kb (iplB u))), N, h) := by
    intro k
    induction k with
    | zero =>
      intro i hi hz
      obtain rfl : i = 5 := by omega
      refine ko_iload_n (i := 1) dX1_isPairLeft_2 rfl rfl ?_
      refine ko_iconst (v := 5) dX1_isPairLeft_3 (by decide) ?_
      refine ko_icmp_ge (tgt := 26) dX1_isPairLeft_4 (by decide) (fun c_4 => ?_) (fun c_4 => ?_)
      · refine ko_iconst (v := 0) dX1_isPairLeft_26 (by decide) ?_
        refine ko_zret dX1_isPairLeft_27 rfl rfl (Nat.le_of_ble_eq_true rfl) (Nat.le_of_ble_eq_true rfl) ?_
        have e9 : iplB u = false := List.any_eq_false.mpr (fun j hj => by simp [hz j (List.mem_range.mp hj)])
        rw [e9]
        rfl
      · exact absurd (show (5 : Int32) ≤ nI 5 by decide) c_4
    | succ k ih =>
      intro i hi hz
      refine ko_iload_n (i := 1) dX1_isPairLeft_2 rfl rfl ?_
      refine ko_iconst (v := 5) dX1_isPairLeft_3 (by decide) ?_
      refine ko_icmp_ge (tgt := 26) dX1_isPairLeft_4 (by decide) (fun c_4 => ?_) (fun c_4 => ?_)
      · exact absurd (show nI 5 ≤ nI i from c_4) (nI_ge (by omega) (by omega))
      · refine ko_aload_n (i := 0) dX1_isPairLeft_7 rfl rfl ?_
        refine ko_get fl_X1_18 dX1_isPairLeft_8 e0 rfl ?_
        refine ko_iload_n (i := 1) dX1_isPairLeft_11 rfl rfl ?_
        refine ko_callVr lk_X1_53 dX1_isPairLeft_12 (fn_laterStrangers (d := d - 1) hP (by omega)) rfl rfl hP.1 rfl rfl (by omega) (by omega) (by omega) (Nat.le_of_ble_eq_true rfl) ?_
        refine ko_if_eq (tgt := 20) dX1_isPairLeft_15 (by decide) (fun c_15 => ?_) (fun c_15 => ?_)
        · refine ko_inc1 (i := 1) (lv' := [(0, _), (1, _)]) dX1_isPairLeft_20 rfl (by decide) rfl rfl rfl ?_
          refine ko_goto (tgt := 2) dX1_isPairLeft_23 (by decide) ?_
          exact ko_lv (by simp [nI_succ]) (ih (i + 1) (by omega) (fun j hj => by
              rcases Nat.lt_succ_iff_lt_or_eq.mp hj with hj | rfl
              · exact hz j hj
              · exact c_15))
        · refine ko_iconst (v := 1) dX1_isPairLeft_18 (by decide) ?_
          refine ko_zret dX1_isPairLeft_19 rfl rfl (Nat.le_of_ble_eq_true rfl) (Nat.le_of_ble_eq_true rfl) ?_
          have e9 : iplB u = true := List.any_eq_true.mpr ⟨i, List.mem_range.mpr (by omega), by simp [c_15]⟩
          rw [e9]
          rfl
  refine ko_iconst (v := 0) dX1_isPairLeft_0 (by decide) ?_
  refine ko_istore_n (i := 1) (lv' := [(0, _), (1, _)]) dX1_isPairLeft_1 rfl (by decide) rfl rfl rfl ?_
  exact LOOP 5 0 rfl (fun j hj => absurd hj (Nat.not_lt_zero j))
def rpR (T : Nat → Int32) (n : Int32) (u : PU) (p : Int32) : Int32 × PU := if ¬ pN u < 5 then (p, u) else if ¬ 0 ≤ dgI T n (p + 1) then (p + 1, u) else if ¬ 0 ≤ dgI T n (p + 2) then (p + 2, u) else if dgI T n (p + 3) < 0 then (p + 3, u) else if ¬ dgI T n (p + 3) ≤ 3 then (p + 3, u) else (-9, adU u (dgI T n (p + 1)) (dgI T n (p + 2)) (dgI T n (p + 3)))
def rkR (T : Nat → Int32) (n : Int32) (u : PU) (p : Int32) : Int32 × PU := if ¬ ltI T n p = 75 then (p, u) else if iplB u = false then (p, u) else if lsI u (dgI T n (p + 1)) = 0 then (p + 1, u) else if hbI (lsI u (dgI T n (p + 1))) (dgI T n (p + 2)) = false then (p + 2, u) else (-9, mkU u (dgI T n (p + 1)) (dgI T n (p + 2)))
def rl (T : Nat → Int32) (n : Int32) : Nat → Int32 → PU → Int32 × PU
  | 0, _, u => (-9, u)
  | k + 1, p, u => if n ≤ p then (-9, u) else if ltI T n p = 80 then if (rpR T n u p).1 = -9 then rl T n k (p + 4) (rpR T n u p).2 else rpR T n u p else if (rkR T n u p).1 = -9 then rl T n k (p + 3) (rkR T n u p).2 else rkR T n u p
def rlR (T : Nat → Int32) (n : Int32) : Int32 × PU := if ¬ ltI T n 0 = 84 then (0, pZ) else rl T n 48 1 pZ
set_option maxRecDepth 20000 in
theorem fn_readPerson {G : kx_G} {d N l : Nat} {h : kx_H} {T : Nat → Int32} {n : Int32} {u : PU} {p : Int32} (e0 : h l = some (klo l n)) (e1 : h (l + 1) = some (kl_a T)) (hP : kP h (l + 2) u) (hd : 2 ≤ d) : kx_Fn mX1_readPerson d 0 0 G [.ref l, .int p] N h (some (.int (rpR T n u p).1), N, kp_put h (l + 2) (rpR T n u p).2) := by
  refine kx_Fn_of rfl (Nat.le_of_ble_eq_true rfl) rfl ?_ (kp_dom hP)
  have f0 : ∀ x, kp_put h (l + 2) x l = some (klo l n) := fun x => by rw [kp_put_out (by omega)]; exact e0
  have f1 : ∀ x, kp_put h (l + 2) x (l + 1) = some (kl_a T) := fun x => by rw [kp_put_out (by omega)]; exact e1
  refine ko_h (kp_put_same hP).symm ?_
  refine ko_aload_n (i := 0) dX1_readPerson_0 rfl rfl ?_
  refine ko_get fl_X1_18 dX1_readPerson_1 (f0 _) rfl ?_
  refine ko_get fl_X1_39 dX1_readPerson_4 (kp_put_P _ _ _).1 rfl ?_
  refine ko_iconst (v := 5) dX1_readPerson_7 (by decide) ?_
  refine ko_icmp_lt (tgt := 13) dX1_readPerson_8 (by decide) (fun c_8 => ?_) (fun c_8 => ?_)
  · refine ko_aload_n (i := 0) dX1_readPerson_13 rfl rfl ?_
    refine ko_iload_n (i := 1) dX1_readPerson_14 rfl rfl ?_
    refine ko_iconst (v := 1) dX1_readPerson_15 (by decide) ?_
    refine ko_iadd dX1_readPerson_16 ?_
    refine ko_callVr lk_X1_42 dX1_readPerson_17 (fn_digitAt (d := d - 1) (f0 _) (f1 _) (by omega)) rfl rfl (f0 _) rfl rfl (by omega) (by omega) (by omega) (Nat.le_of_ble_eq_true rfl) ?_
    refine ko_istore_n (i := 2) (lv' := [(0, _), (1, _), (2, _)]) dX1_readPerson_20 rfl (by decide) rfl rfl rfl ?_
    refine ko_iload_n (i := 2) dX1_readPerson_21 rfl rfl ?_
    refine ko_if_ge (tgt := 29) dX1_readPerson_22 (by decide) (fun c_22 => ?_) (fun c_22 => ?_)
    · refine ko_aload_n (i := 0) dX1_readPerson_29 rfl rfl ?_
      refine ko_iload_n (i := 1) dX1_readPerson_30 rfl rfl ?_
      refine ko_iconst (v := 2) dX1_readPerson_31 (by decide) ?_
      refine ko_iadd dX1_readPerson_32 ?_
      refine ko_callVr lk_X1_42 dX1_readPerson_33 (fn_digitAt (d := d - 1) (f0 _) (f1 _) (by omega)) rfl rfl (f0 _) rfl rfl (by omega) (by omega) (by omega) (Nat.le_of_ble_eq_true rfl) ?_
      refine ko_istore_n (i := 3) (lv' := [(0, _), (1, _), (2, _), (3, _)]) dX1_readPerson_36 rfl (by decide) rfl rfl rfl ?_
      refine ko_iload_n (i := 3) dX1_readPerson_37 rfl rfl ?_
      refine ko_if_ge (tgt := 45) dX1_readPerson_38 (by decide) (fun c_38 => ?_) (fun c_38 => ?_)
      · refine ko_aload_n (i := 0) dX1_readPerson_45 rfl rfl ?_
        refine ko_iload_n (i := 1) dX1_readPerson_46 rfl rfl ?_
        refine ko_iconst (v := 3) dX1_readPerson_47 (by decide) ?_
        refine ko_iadd dX1_readPerson_48 ?_
        refine ko_callVr lk_X1_42 dX1_readPerson_49 (fn_digitAt (d := d - 1) (f0 _) (f1 _) (by omega)) rfl rfl (f0 _) rfl rfl (by omega) (by omega) (by omega) (Nat.le_of_ble_eq_true rfl) ?_
        refine ko_istore (i := 4) (lv' := [(0, _), (1, _), (2, _), (3, _), (4, _)]) dX1_readPerson_52 (by decide) rfl rfl rfl ?_
        refine ko_iload (i := 4) dX1_readPerson_54 rfl ?_
        refine ko_if_lt (tgt := 65) dX1_readPerson_56 (by decide) (fun c_56 => ?_) (fun c_56 => ?_)
        · refine ko_iload_n (i := 1) dX1_readPerson_65 rfl rfl ?_
          refine ko_iconst (v := 3) dX1_readPerson_66 (by decide) ?_
          refine ko_iadd dX1_readPerson_67 ?_
          refine ko_iret dX1_readPerson_68 rfl (Nat.le_of_ble_eq_true rfl) (Nat.le_of_ble_eq_true rfl) ?_
          simp [rpR, c_8, c_22, c_38, c_56]
        · refine ko_iload (i := 4) dX1_readPerson_59 rfl ?_
          refine ko_iconst (v := 3) dX1_readPerson_61 (by decide) ?_
          refine ko_icmp_le (tgt := 69) dX1_readPerson_62 (by decide) (fun c_62 => ?_) (fun c_62 => ?_)
          · refine ko_aload_n (i := 0) dX1_readPerson_69 rfl rfl ?_
            refine ko_get fl_X1_18 dX1_readPerson_70 (f0 _) rfl ?_
            refine ko_iload_n (i := 2) dX1_readPerson_73 rfl rfl ?_
            refine ko_iload_n (i := 3) dX1_readPerson_74 rfl rfl ?_
            refine ko_iload (i := 4) dX1_readPerson_75 rfl ?_
            refine ko_callVv lk_X1_45 dX1_readPerson_77 (fn_add (d := d - 1) (kp_put_P _ _ _)) rfl rfl (kp_put_P _ _ _).1 rfl rfl (by omega) (by omega) (by omega) (Nat.le_of_ble_eq_true rfl) ?_
            rw [kp_put_put]
            refine ko_bipush (v := (-9)) dX1_readPerson_80 (by decide) ?_
            refine ko_iret dX1_readPerson_82 rfl (Nat.le_of_ble_eq_true rfl) (Nat.le_of_ble_eq_true rfl) ?_
            simp [rpR, c_8, c_22, c_38, c_56, c_62]
          · refine ko_iload_n (i := 1) dX1_readPerson_65 rfl rfl ?_
            refine ko_iconst (v := 3) dX1_readPerson_66 (by decide) ?_
            refine ko_iadd dX1_readPerson_67 ?_
            refine ko_iret dX1_readPerson_68 rfl (Nat.le_of_ble_eq_true rfl) (Nat.le_of_ble_eq_true rfl) ?_
            simp [rpR, c_8, c_22, c_38, c_56, c_62]
      · refine ko_iload_n (i := 1) dX1_readPerson_41 rfl rfl ?_
        refine ko_iconst (v := 2) dX1_readPerson_42 (by decide) ?_
        refine ko_iadd dX1_readPerson_43 ?_
        refine ko_iret dX1_readPerson_44 rfl (Nat.le_of_ble_eq_true rfl) (Nat.le_of_ble_eq_true rfl) ?_
        simp [rpR, c_8, c_22, c_38]
    · refine ko_iload_n (i := 1) dX1_readPerson_25 rfl rfl ?_
      refine ko_iconst (v := 1) dX1_readPerson_26 (by decide) ?_
      refine ko_iadd dX1_readPerson_27 ?_
      refine ko_iret dX1_readPerson_28 rfl (Nat.le_of_ble_eq_true rfl) (Nat.le_of_ble_eq_true rfl) ?_
      simp [rpR, c_8, c_22]
  · refine ko_iload_n (i := 1) dX1_readPerson_11 rfl rfl ?_
    refine ko_iret dX1_readPerson_12 rfl (Nat.le_of_ble_eq_true rfl) (Nat.le_of_ble_eq_true rfl) ?_
    simp [rpR, c_8]
set_option maxRecDepth 20000 in
theorem fn_readKin {G : kx_G} {d N l : Nat} {h : kx_H} {T : Nat → Int32} {n : Int32} {u : PU} {p : Int32} (e0 : h l = some (klo l n)) (e1 : h (l + 1) = some (kl_a T)) (hP : kP h (l + 2) u) (hd : 3 ≤ d) : kx_Fn mX1_readKin d 0 0 G [.ref l, .int p] N h (some (.int (rkR T n u p).1), N, kp_put h (l + 2) (rkR T n u p).2) := by
  refine kx_Fn_of rfl (Nat.le_of_ble_eq_true rfl) rfl ?_ (kp_dom hP)
  have f0 : ∀ x, kp_put h (l + 2) x l = some (klo l n) := fun x => by rw [kp_put_out (by omega)]; exact e0
  have f1 : ∀ x, kp_put h (l + 2) x (l + 1) = some (kl_a T) := fun x => by rw [kp_put_out (by omega)]; exact e1
  refine ko_h (kp_put_same hP).symm ?_
  refine ko_aload_n (i := 0) dX1_readKin_0 rfl rfl ?_
  refine ko_iload_n (i := 1) dX1_readKin_1 rfl rfl ?_
  refine ko_callVr lk_X1_29 dX1_readKin_2 (fn_letterAt (d := d - 1) (f0 _) (f1 _)) rfl rfl (f0 _) rfl rfl (by omega) (by omega) (by omega) (Nat.le_of_ble_eq_true rfl) ?_
  refine ko_bipush (v := 75) dX1_readKin_5 (by decide) ?_
  refine ko_icmp_ne (tgt := 17) dX1_readKin_7 (by decide) (fun c_7 => ?_) (fun c_7 => ?_)
  · refine ko_iload_n (i := 1) dX1_readKin_17 rfl rfl ?_
    refine ko_iret dX1_readKin_18 rfl (Nat.le_of_ble_eq_true rfl) (Nat.le_of_ble_eq_true rfl) ?_
    simp [rkR, c_7]
  · refine ko_aload_n (i := 0) dX1_readKin_10 rfl rfl ?_
    refine ko_callVr lk_X1_49 dX1_readKin_11 (fn_isPairLeft (d := d - 1) (f0 _) (kp_put_P _ _ _) (by omega)) rfl rfl (f0 _) rfl rfl (by omega) (by omega) (by omega) (Nat.le_of_ble_eq_true rfl) ?_
    first | refine ko_ifb_ne (tgt := 19) dX1_readKin_14 (by decide) (fun c_14 => ?_) (fun c_14 => ?_) | refine ko_if_ne (tgt := 19) dX1_readKin_14 (by decide) (fun c_14 => ?_) (fun c_14 => ?_)
    · refine ko_aload_n (i := 0) dX1_readKin_19 rfl rfl ?_
      refine ko_iload_n (i := 1) dX1_readKin_20 rfl rfl ?_
      refine ko_iconst (v := 1) dX1_readKin_21 (by decide) ?_
      refine ko_iadd dX1_readKin_22 ?_
      refine ko_callVr lk_X1_42 dX1_readKin_23 (fn_digitAt (d := d - 1) (f0 _) (f1 _) (by omega)) rfl rfl (f0 _) rfl rfl (by omega) (by omega) (by omega) (Nat.le_of_ble_eq_true rfl) ?_
      refine ko_istore_n (i := 2) (lv' := [(0, _), (1, _), (2, _)]) dX1_readKin_26 rfl (by decide) rfl rfl rfl ?_
      refine ko_aload_n (i := 0) dX1_readKin_27 rfl rfl ?_
      refine ko_get fl_X1_18 dX1_readKin_28 (f0 _) rfl ?_
      refine ko_iload_n (i := 2) dX1_readKin_31 rfl rfl ?_
      refine ko_callVr lk_X1_53 dX1_readKin_32 (fn_laterStrangers (d := d - 1) (kp_put_P _ _ _) (by omega)) rfl rfl (kp_put_P _ _ _).1 rfl rfl (by omega) (by omega) (by omega) (Nat.le_of_ble_eq_true rfl) ?_
      refine ko_istore_n (i := 3) (lv' := [(0, _), (1, _), (2, _), (3, _)]) dX1_readKin_35 rfl (by decide) rfl rfl rfl ?_
      refine ko_iload_n (i := 3) dX1_readKin_36 rfl rfl ?_
      refine ko_if_ne (tgt := 44) dX1_readKin_37 (by decide) (fun c_37 => ?_) (fun c_37 => ?_)
      · refine ko_aload_n (i := 0) dX1_readKin_44 rfl rfl ?_
        refine ko_iload_n (i := 1) dX1_readKin_45 rfl rfl ?_
        refine ko_iconst (v := 2) dX1_readKin_46 (by decide) ?_
        refine ko_iadd dX1_readKin_47 ?_
        refine ko_callVr lk_X1_42 dX1_readKin_48 (fn_digitAt (d := d - 1) (f0 _) (f1 _) (by omega)) rfl rfl (f0 _) rfl rfl (by omega) (by omega) (by omega) (Nat.le_of_ble_eq_true rfl) ?_
        refine ko_istore (i := 4) (lv' := [(0, _), (1, _), (2, _), (3, _), (4, _)]) dX1_readKin_51 (by decide) rfl rfl rfl ?_
        refine ko_iload_n (i := 3) dX1_readKin_53 rfl rfl ?_
        refine ko_iload (i := 4) dX1_readKin_54 rfl ?_
        refine ko_callSNr lk_X1_56 dX1_readKin_56 (fn_hasBit (d := d - 1)) rfl rfl (by omega) (by omega) (by omega) (Nat.le_of_ble_eq_true rfl) ?_
        first | refine ko_ifb_ne (tgt := 66) dX1_readKin_59 (by decide) (fun c_59 => ?_) (fun c_59 => ?_) | refine ko_if_ne (tgt := 66) dX1_readKin_59 (by decide) (fun c_59 => ?_) (fun c_59 => ?_)
        · refine ko_aload_n (i := 0) dX1_readKin_66 rfl rfl ?_
          refine ko_get fl_X1_18 dX1_readKin_67 (f0 _) rfl ?_
          refine ko_iload_n (i := 2) dX1_readKin_70 rfl rfl ?_
          refine ko_iload (i := 4) dX1_readKin_71 rfl ?_
          refine ko_callVv lk_X1_60 dX1_readKin_73 (fn_makeKin (d := d - 1) (kp_put_P _ _ _) (by omega)) rfl rfl (kp_put_P _ _ _).1 rfl rfl (by omega) (by omega) (by omega) (Nat.le_of_ble_eq_true rfl) ?_
          rw [kp_put_put]
          refine ko_bipush (v := (-9)) dX1_readKin_76 (by decide) ?_
          refine ko_iret dX1_readKin_78 rfl (Nat.le_of_ble_eq_true rfl) (Nat.le_of_ble_eq_true rfl) ?_
          simp [rkR, c_7, c_14, c_37, c_59]
        · refine ko_iload_n (i := 1) dX1_readKin_62 rfl rfl ?_
          refine ko_iconst (v := 2) dX1_readKin_63 (by decide) ?_
          refine ko_iadd dX1_readKin_64 ?_
          refine ko_iret dX1_readKin_65 rfl (Nat.le_of_ble_eq_true rfl) (Nat.le_of_ble_eq_true rfl) ?_
          simp [rkR, c_7, c_14, c_37, c_59]
      · refine ko_iload_n (i := 1) dX1_readKin_40 rfl rfl ?_
        refine ko_iconst (v := 1) dX1_readKin_41 (by decide) ?_
        refine ko_iadd dX1_readKin_42 ?_
        refine ko_iret dX1_readKin_43 rfl (Nat.le_of_ble_eq_true rfl) (Nat.le_of_ble_eq_true rfl) ?_
        simp [rkR, c_7, c_14, c_37]
    · refine ko_iload_n (i := 1) dX1_readKin_17 rfl rfl ?_
      refine ko_iret dX1_readKin_18 rfl (Nat.le_of_ble_eq_true rfl) (Nat.le_of_ble_eq_true rfl) ?_
      simp [rkR, c_7, c_14]
set_option maxRecDepth 20000 in
theorem fn_readLand {G : kx_G} {d N l : Nat} {h : kx_H} {T : Nat → Int32} {n : Int32} {u : PU} {L : Nat} (e0 : h l = some (klo l n)) (e1 : h (l + 1) = some (kl_a T)) (hP : kP h (l + 2) u) (hn : n = nI L) (hL : L ≤ 48) (hd : 4 ≤ d) : kx_Fn mX1_readLand d 0 0 G [.ref l] N h (some (.int (rlR T n).1), N, kp_put h (l + 2) (rlR T n).2) := by
  refine kx_Fn_of rfl (Nat.le_of_ble_eq_true rfl) rfl ?_ (kp_dom hP)
  have f0 : ∀ x, kp_put h (l + 2) x l = some (klo l n) := fun x => by rw [kp_put_out (by omega)]; exact e0
  have f1 : ∀ x, kp_put h (l + 2) x (l + 1) = some (kl_a T) := fun x => by rw [kp_put_out (by omega)]; exact e1
  refine ko_h (kp_put_same hP).symm ?_
  have LOOP : ∀ (k j : Nat) (v : PU), L ≤ j + k → j ≤ 60 → kx_Ok mX1_readLand d 0 0 G 0 0 21 [(0, .ref l), (1, .int (nI j))] [] N (kp_put h (l + 2) v) (some (.int (rl T n k (nI j) v).1), N, kp_put h (l + 2) (rl T n k (nI j) v).2) := by
    intro k
    induction k with
    | zero =>
      intro j v hj hj2
      refine ko_iload_n (i := 1) dX1_readLand_21 rfl rfl ?_
      refine ko_aload_n (i := 0) dX1_readLand_22 rfl rfl ?_
      refine ko_get fl_X1_22 dX1_readLand_23 (f0 _) rfl ?_
      refine ko_icmp_ge (tgt := 86) dX1_readLand_26 (by decide) (fun c_26 => ?_) (fun c_26 => ?_)
      · refine ko_bipush (v := (-9)) dX1_readLand_86 (by decide) ?_
        refine ko_iret dX1_readLand_88 rfl (Nat.le_of_ble_eq_true rfl) (Nat.le_of_ble_eq_true rfl) ?_
        rfl
      · exact absurd (show n ≤ nI j by rw [hn]; exact (nI_le (by omega) (by omega))) c_26
    | succ k ih =>
      intro j v hj hj2
      refine ko_iload_n (i := 1) dX1_readLand_21 rfl rfl ?_
      refine ko_aload_n (i := 0) dX1_readLand_22 rfl rfl ?_
      refine ko_get fl_X1_22 dX1_readLand_23 (f0 _) rfl ?_
      refine ko_icmp_ge (tgt := 86) dX1_readLand_26 (by decide) (fun c_26 => ?_) (fun c_26 => ?_)
      · refine ko_bipush (v := (-9)) dX1_readLand_86 (by decide) ?_
        refine ko_iret dX1_readLand_88 rfl (Nat.le_of_ble_eq_true rfl) (Nat.le_of_ble_eq_true rfl) ?_
        simp only [rl, if_pos c_26]
      · have hjL : j < L := by
          rcases Nat.lt_or_ge j L with q | q
          · exact q
          · exact absurd (show n ≤ nI j by rw [hn]; exact nI_le q (by omega)) c_26
        refine ko_aload_n (i := 0) dX1_readLand_29 rfl rfl ?_
        refine ko_iload_n (i := 1) dX1_readLand_30 rfl rfl ?_
        refine ko_callVr lk_X1_29 dX1_readLand_31 (fn_letterAt (d := d - 1) (f0 _) (f1 _)) rfl rfl (f0 _) rfl rfl (by omega) (by omega) (by omega) (Nat.le_of_ble_eq_true rfl) ?_
        refine ko_bipush (v := 80) dX1_readLand_34 (by decide) ?_
        refine ko_icmp_ne (tgt := 43) dX1_readLand_36 (by decide) (fun c_36 => ?_) (fun c_36 => ?_)
        · refine ko_iconst (v := 0) dX1_readLand_43 (by decide) ?_
          refine ko_istore_n (i := 2) (lv' := [(0, _), (1, _), (2, _)]) dX1_readLand_44 rfl (by decide) rfl rfl rfl ?_
          refine ko_iload_n (i := 2) dX1_readLand_45 rfl rfl ?_
          refine ko_if_eq (tgt := 57) dX1_readLand_46 (by decide) (fun c_46 => ?_) (fun c_46 => absurd c_46 (by decide))
          refine ko_aload_n (i := 0) dX1_readLand_57 rfl rfl ?_
          refine ko_iload_n (i := 1) dX1_readLand_58 rfl rfl ?_
          refine ko_callVr lk_X1_36 dX1_readLand_59 (fn_readKin (d := d - 1) (f0 _) (f1 _) (kp_put_P _ _ _) (by omega)) rfl rfl (f0 _) rfl rfl (by omega) (by omega) (by omega) (Nat.le_of_ble_eq_true rfl) ?_
          rw [kp_put_put]
          refine ko_istore_n (i := 3) (lv' := [(0, _), (1, _), (2, _), (3, _)]) dX1_readLand_62 rfl (by decide) rfl rfl rfl ?_
          refine ko_iload_n (i := 3) dX1_readLand_63 rfl rfl ?_
          refine ko_bipush (v := (-9)) dX1_readLand_64 (by decide) ?_
          refine ko_icmp_eq (tgt := 71) dX1_readLand_66 (by decide) (fun c_66 => ?_) (fun c_66 => ?_)
          · refine ko_iload_n (i := 1) dX1_readLand_71 rfl rfl ?_
            refine ko_iload_n (i := 2) dX1_readLand_72 rfl rfl ?_
            refine ko_if_eq (tgt := 80) dX1_readLand_73 (by decide) (fun c_73 => ?_) (fun c_73 => absurd c_73 (by decide))
            refine ko_iconst (v := 3) dX1_readLand_80 (by decide) ?_
            refine ko_iadd dX1_readLand_81 ?_
            refine ko_istore_n (i := 1) (lv' := [(0, _), (1, _), (2, _), (3, _)]) dX1_readLand_82 rfl (by decide) rfl rfl rfl ?_
            refine ko_goto (tgt := 21) dX1_readLand_83 (by decide) ?_
            refine ko_keep [0, 1] (lv' := [(0, _), (1, _)]) rfl ?_
            simp only [rl, if_neg c_26, c_26, c_36, c_66, if_true, if_false]
            first
              | rw [show nI j + 4 = nI (j + 4) from nI_add j 4]; exact ih (j + 4) _ (by omega) (by omega)
              | rw [show nI j + 3 = nI (j + 3) from nI_add j 3]; exact ih (j + 3) _ (by omega) (by omega)
          · refine ko_iload_n (i := 3) dX1_readLand_69 rfl rfl ?_
            refine ko_iret dX1_readLand_70 rfl (Nat.le_of_ble_eq_true rfl) (Nat.le_of_ble_eq_true rfl) ?_
            simp only [rl, if_neg c_26, c_26, c_36, c_66, if_true, if_false, not_false_eq_true]
        · refine ko_iconst (v := 1) dX1_readLand_39 (by decide) ?_
          refine ko_goto (tgt := 44) dX1_readLand_40 (by decide) ?_
          refine ko_istore_n (i := 2) (lv' := [(0, _), (1, _), (2, _)]) dX1_readLand_44 rfl (by decide) rfl rfl rfl ?_
          refine ko_iload_n (i := 2) dX1_readLand_45 rfl rfl ?_
          refine ko_if_eq (tgt := 57) dX1_readLand_46 (by decide) (fun c_46 => absurd c_46 (by decide)) (fun c_46 => ?_)
          refine ko_aload_n (i := 0) dX1_readLand_49 rfl rfl ?_
          refine ko_iload_n (i := 1) dX1_readLand_50 rfl rfl ?_
          refine ko_callVr lk_X1_33 dX1_readLand_51 (fn_readPerson (d := d - 1) (f0 _) (f1 _) (kp_put_P _ _ _) (by omega)) rfl rfl (f0 _) rfl rfl (by omega) (by omega) (by omega) (Nat.le_of_ble_eq_true rfl) ?_
          rw [kp_put_put]
          refine ko_goto (tgt := 62) dX1_readLand_54 (by decide) ?_
          refine ko_istore_n (i := 3) (lv' := [(0, _), (1, _), (2, _), (3, _)]) dX1_readLand_62 rfl (by decide) rfl rfl rfl ?_
          refine ko_iload_n (i := 3) dX1_readLand_63 rfl rfl ?_
          refine ko_bipush (v := (-9)) dX1_readLand_64 (by decide) ?_
          refine ko_icmp_eq (tgt := 71) dX1_readLand_66 (by decide) (fun c_66 => ?_) (fun c_66 => ?_)
          · refine ko_iload_n (i := 1) dX1_readLand_71 rfl rfl ?_
            refine ko_iload_n (i := 2) dX1_readLand_72 rfl rfl ?_
            refine ko_if_eq (tgt := 80) dX1_readLand_73 (by decide) (fun c_73 => absurd c_73 (by decide)) (fun c_73 => ?_)
            refine ko_iconst (v := 4) dX1_readLand_76 (by decide) ?_
            refine ko_goto (tgt := 81) dX1_readLand_77 (by decide) ?_
            refine ko_iadd dX1_readLand_81 ?_
            refine ko_istore_n (i := 1) (lv' := [(0, _), (1, _), (2, _), (3, _)]) dX1_readLand_82 rfl (by decide) rfl rfl rfl ?_
            refine ko_goto (tgt := 21) dX1_readLand_83 (by decide) ?_
            refine ko_keep [0, 1] (lv' := [(0, _), (1, _)]) rfl ?_
            simp only [rl, if_neg c_26, c_26, c_36, c_66, if_true, if_false]
            first
              | rw [show nI j + 4 = nI (j + 4) from nI_add j 4]; exact ih (j + 4) _ (by omega) (by omega)
              | rw [show nI j + 3 = nI (j + 3) from nI_add j 3]; exact ih (j + 3) _ (by omega) (by omega)
          · refine ko_iload_n (i := 3) dX1_readLand_69 rfl rfl ?_
            refine ko_iret dX1_readLand_70 rfl (Nat.le_of_ble_eq_true rfl) (Nat.le_of_ble_eq_true rfl) ?_
            simp only [rl, if_neg c_26, c_26, c_36, c_66, if_true, if_false, not_false_eq_true]
  refine ko_aload_n (i := 0) dX1_readLand_0 rfl rfl ?_
  refine ko_get fl_X1_18 dX1_readLand_1 (f0 _) rfl ?_
  refine ko_callVv lk_X1_26 dX1_readLand_4 (fn_clear (d := d - 1) (kp_put_P _ _ _)) rfl rfl (kp_put_P _ _ _).1 rfl rfl (by omega) (by omega) (by omega) (Nat.le_of_ble_eq_true rfl) ?_
  rw [kp_put_put]
  refine ko_aload_n (i := 0) dX1_readLand_7 rfl rfl ?_
  refine ko_iconst (v := 0) dX1_readLand_8 (by decide) ?_
  refine ko_callVr lk_X1_29 dX1_readLand_9 (fn_letterAt (d := d - 1) (f0 _) (f1 _)) rfl rfl (f0 _) rfl rfl (by omega) (by omega) (by omega) (Nat.le_of_ble_eq_true rfl) ?_
  refine ko_bipush (v := 84) dX1_readLand_12 (by decide) ?_
  refine ko_icmp_eq (tgt := 19) dX1_readLand_14 (by decide) (fun c_14 => ?_) (fun c_14 => ?_)
  · refine ko_iconst (v := 1) dX1_readLand_19 (by decide) ?_
    refine ko_istore_n (i := 1) (lv' := [(0, _), (1, _)]) dX1_readLand_20 rfl (by decide) rfl rfl rfl ?_
    have e1L := LOOP 48 1 pZ (by omega) (by omega)
    simp only [rlR, c_14, not_true_eq_false, if_false]
    exact e1L
  · refine ko_iconst (v := 0) dX1_readLand_17 (by decide) ?_
    refine ko_iret dX1_readLand_18 rfl (Nat.le_of_ble_eq_true rfl) (Nat.le_of_ble_eq_true rfl) ?_
    simp [rlR, c_14]
theorem ku_two (h : kx_H) {a b : Nat} (e f : va_E) (hab : a ≠ b) : kx_up (kx_up h a e) b f = kx_up (kx_up h b f) a e := by
  funext q
  unfold kx_up
  by_cases h1 : q = b
  · rw [if_pos h1, if_neg (fun z => hab (z.symm.trans h1)), if_pos h1]
  · rw [if_neg h1]
    by_cases h2 : q = a
    · rw [if_pos h2, if_pos h2]
    · rw [if_neg h2, if_neg h2, if_neg h1]
def apB (n : Int32) : Bool := !decide (n < 0) && decide (n < 48)
def apT (T : Nat → Int32) (n c : Int32) : Nat → Int32 := if apB n = true then upd T n.toNatClampNeg c else T
def apN (n : Int32) : Int32 := if apB n = true then n + 1 else n
set_option maxRecDepth 20000 in
theorem fn_append {G : kx_G} {d N l : Nat} {h : kx_H} {T : Nat → Int32} {n : Int32} {c : Int32} : kx_Fn mX1_append d 0 0 G [.ref l, .int c] N (kx_up (kx_up h (l + 1) (kl_a T)) l (klo l n)) (some (.int (kb (apB n))), N, kx_up (kx_up h (l + 1) (kl_a (apT T n c))) l (klo l (apN n))) := by
  refine kx_Fn_of rfl (Nat.le_of_ble_eq_true rfl) rfl ?_ (fun q x hx => by
    by_cases h1 : q = l
    · subst h1; exact kx_self _ _ ku_s
    · by_cases h2 : q = l + 1
      · subst h2; exact kx_self _ (kl_a T) (by rw [ku_n (by omega), ku_s])
      · have hx : kx_up (kx_up h (l + 1) (kl_a (apT T n c))) l (klo l (apN n)) q = some x := hx
        rw [ku_n h1, ku_n h2] at hx
        exact kx_self q x (by rw [ku_n h1, ku_n h2]; exact hx))
  refine ko_aload_n (i := 0) dX1_append_0 rfl rfl ?_
  refine ko_get fl_X1_22 dX1_append_1 ku_s rfl ?_
  refine ko_if_lt (tgt := 16) dX1_append_4 (by decide) (fun c_4 => ?_) (fun c_4 => ?_)
  · refine ko_iconst (v := 0) dX1_append_16 (by decide) ?_
    refine ko_zret dX1_append_17 rfl rfl (Nat.le_of_ble_eq_true rfl) (Nat.le_of_ble_eq_true rfl) ?_
    simp [apB, apT, apN, kb, c_4]
  · refine ko_aload_n (i := 0) dX1_append_7 rfl rfl ?_
    refine ko_get fl_X1_22 dX1_append_8 ku_s rfl ?_
    refine ko_bipush (v := 48) dX1_append_11 (by decide) ?_
    refine ko_icmp_lt (tgt := 18) dX1_append_13 (by decide) (fun c_13 => ?_) (fun c_13 => ?_)
    · refine ko_aload_n (i := 0) dX1_append_18 rfl rfl ?_
      refine ko_get fl_X1_9 dX1_append_19 ku_s rfl ?_
      refine ko_aload_n (i := 0) dX1_append_22 rfl rfl ?_
      refine ko_get fl_X1_22 dX1_append_23 ku_s rfl ?_
      refine ko_iload_n (i := 1) dX1_append_26 rfl rfl ?_
      refine ko_iast dX1_append_27 (by rw [ku_n (by omega), ku_s]) (in48 c_4 (Int32.not_le.mpr c_13)) ?_
      rw [ku_two _ _ _ (by omega), ku_ku]
      refine ko_aload_n (i := 0) dX1_append_28 rfl rfl ?_
      refine ko_dup dX1_append_29 rfl ?_
      refine ko_get fl_X1_22 dX1_append_30 ku_s rfl ?_
      refine ko_iconst (v := 1) dX1_append_33 (by decide) ?_
      refine ko_iadd dX1_append_34 ?_
      refine ko_put fl_X1_22 dX1_append_35 ku_s rfl rfl (Nat.le_of_ble_eq_true rfl) ?_
      rw [ku_ku]
      refine ko_iconst (v := 1) dX1_append_38 (by decide) ?_
      refine ko_zret dX1_append_39 rfl rfl (Nat.le_of_ble_eq_true rfl) (Nat.le_of_ble_eq_true rfl) ?_
      simp [apB, apT, apN, kb, c_4, c_13]
    · refine ko_iconst (v := 0) dX1_append_16 (by decide) ?_
      refine ko_zret dX1_append_17 rfl rfl (Nat.le_of_ble_eq_true rfl) (Nat.le_of_ble_eq_true rfl) ?_
      simp [apB, apT, apN, kb, c_4, c_13]
