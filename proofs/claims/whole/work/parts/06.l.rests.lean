/-! ===== the reference: rests, years ===== -/
def gaM (b1 b2 : Bool) (own other : Int32) (first : Bool) : Int32 := (if (b1 && ((decide (other < own) || (decide (own = other) && first)) || !b2)) = true then 3 - own else 0) - (if (!decide (own ≤ 0) && !b1) = true then 1 else 0)
def fsB (b1 b2 : Bool) (a b : Nat) : Nat → Bool
  | 0 => true
  | k + 1 => fsB b1 b2 a b k && (!decide (gaM b1 b2 (nI a) (nI b) true < gaM b1 b2 (nI k) (nI b) true) && !decide (gaM b2 b1 (nI b) (nI a) false < gaM b2 b1 (nI k) (nI a) false))
def feJ (b1 b2 : Bool) (a : Nat) : Nat → Int32 × Int32 → Int32 × Int32
  | 0, s => s
  | b + 1, s => ((feJ b1 b2 a b s).1 + (if fsB b1 b2 a b 4 = true then 1 else 0), if fsB b1 b2 a b 4 = true then if (feJ b1 b2 a b s).1 = 0 then 10 * nI a + nI b else (feJ b1 b2 a b s).2 else (feJ b1 b2 a b s).2)
def feI (b1 b2 : Bool) : Nat → Int32 × Int32
  | 0 => (0, -9)
  | a + 1 => feJ b1 b2 a 4 (feI b1 b2 a)
theorem fe_eq : ∀ b1 b2 : Bool, feI b1 b2 4 = reI b1 b2 4 := by decide +kernel
set_option maxRecDepth 20000 in
theorem fn_gainOf {G : kx_G} {d N m n : Nat} {h : kx_H} {o : MO} {Kf f : Nat → Int32} {u : PU} {i j q : Nat} {own other : Int32} {first : Bool} (o0 : h m = some (kmo m o)) (k0 : h (m + 2) = some (ka 5 Kf)) (hk : ∀ j, j < n → Kf j = pKd u j) (t0 : h (m + 5) = some (ka 43 f)) (hp : pgR f u) (hw : WF u n) (hi : i < n) (hj : j < n) (hq : q < n) (hd : 3 ≤ d) : kx_Fn mX5_gainOf d 0 0 G [.ref m, .int (nI i), .int (nI j), .int (nI q), .int own, .int other, .int (kb first)] N h (some (.int (gaM (mayI u (nI i) (nI q)) (mayI u (nI j) (nI q)) own other first)), N, h) := by
  refine kx_Fn_of rfl (Nat.le_of_ble_eq_true rfl) rfl ?_ (kx_self)
  refine ko_aload_n (i := 0) dX5_gainOf_0 rfl rfl ?_
  refine ko_aload_n (i := 0) dX5_gainOf_1 rfl rfl ?_
  refine ko_get fl_X5_22 dX5_gainOf_2 o0 rfl ?_
  refine ko_iload_n (i := 1) dX5_gainOf_5 rfl rfl ?_
  refine ko_iload_n (i := 3) dX5_gainOf_6 rfl rfl ?_
  refine ko_callVr lk_X5_105 dX5_gainOf_7 (fn_mmayWeep (d := d - 1) o0 k0 hk t0 hp hw hi hq (by omega)) rfl rfl o0 rfl rfl (by omega) (by omega) (by omega) (Nat.le_of_ble_eq_true rfl) ?_
  refine ko_istore (i := 7) (lv' := [(0, _), (1, _), (2, _), (3, _), (4, _), (5, _), (6, _), (7, _)]) dX5_gainOf_10 (by decide) rfl rfl rfl ?_
  refine ko_aload_n (i := 0) dX5_gainOf_12 rfl rfl ?_
  refine ko_aload_n (i := 0) dX5_gainOf_13 rfl rfl ?_
  refine ko_get fl_X5_22 dX5_gainOf_14 o0 rfl ?_
  refine ko_iload_n (i := 2) dX5_gainOf_17 rfl rfl ?_
  refine ko_iload_n (i := 3) dX5_gainOf_18 rfl rfl ?_
  refine ko_callVr lk_X5_105 dX5_gainOf_19 (fn_mmayWeep (d := d - 1) o0 k0 hk t0 hp hw hj hq (by omega)) rfl rfl o0 rfl rfl (by omega) (by omega) (by omega) (Nat.le_of_ble_eq_true rfl) ?_
  refine ko_istore (i := 8) (lv' := [(0, _), (1, _), (2, _), (3, _), (4, _), (5, _), (6, _), (7, _), (8, _)]) dX5_gainOf_22 (by decide) rfl rfl rfl ?_
  refine ko_iload (i := 4) dX5_gainOf_24 rfl ?_
  refine ko_iload (i := 5) dX5_gainOf_26 rfl ?_
  refine ko_icmp_gt (tgt := 43) dX5_gainOf_28 (by decide) (fun c_28 => ?_) (fun c_28 => ?_)
  · refine ko_iconst (v := 1) dX5_gainOf_43 (by decide) ?_
    refine ko_goto (tgt := 48) dX5_gainOf_44 (by decide) ?_
    refine ko_istore (i := 9) (lv' := [(0, _), (1, _), (2, _), (3, _), (4, _), (5, _), (6, _), (7, _), (8, _), (9, _)]) dX5_gainOf_48 (by decide) rfl rfl rfl ?_
    refine ko_iload (i := 7) dX5_gainOf_50 rfl ?_
    first | refine ko_ifb_eq (tgt := 69) dX5_gainOf_52 (by decide) (fun c_52 => ?_) (fun c_52 => ?_) | refine ko_if_eq (tgt := 69) dX5_gainOf_52 (by decide) (fun c_52 => ?_) (fun c_52 => ?_)
    · refine ko_iconst (v := 0) dX5_gainOf_69 (by decide) ?_
      refine ko_istore (i := 10) (lv' := [(0, _), (1, _), (2, _), (3, _), (4, _), (5, _), (6, _), (7, _), (8, _), (9, _), (10, _)]) dX5_gainOf_70 (by decide) rfl rfl rfl ?_
      refine ko_iload (i := 10) dX5_gainOf_72 rfl ?_
      refine ko_if_eq (tgt := 84) dX5_gainOf_74 (by decide) (fun c_74 => ?_) (fun c_74 => absurd c_74 (by decide))
      refine ko_iconst (v := 0) dX5_gainOf_84 (by decide) ?_
      refine ko_iload (i := 4) dX5_gainOf_85 rfl ?_
      refine ko_if_le (tgt := 99) dX5_gainOf_87 (by decide) (fun c_87 => ?_) (fun c_87 => ?_)
      · refine ko_iconst (v := 0) dX5_gainOf_99 (by decide) ?_
        refine ko_isub dX5_gainOf_100 ?_
        refine ko_iret dX5_gainOf_101 rfl (Nat.le_of_ble_eq_true rfl) (Nat.le_of_ble_eq_true rfl) ?_
        first
          | exact absurd (c_52.symm.trans c_92) (by decide)
          | (simp [gaM, c_28, c_52, c_87]; done)
      · refine ko_iload (i := 7) dX5_gainOf_90 rfl ?_
        first | refine ko_ifb_ne (tgt := 99) dX5_gainOf_92 (by decide) (fun c_92 => ?_) (fun c_92 => ?_) | refine ko_if_ne (tgt := 99) dX5_gainOf_92 (by decide) (fun c_92 => ?_) (fun c_92 => ?_)
        · refine ko_iconst (v := 0) dX5_gainOf_99 (by decide) ?_
          refine ko_isub dX5_gainOf_100 ?_
          refine ko_iret dX5_gainOf_101 rfl (Nat.le_of_ble_eq_true rfl) (Nat.le_of_ble_eq_true rfl) ?_
          first
            | exact absurd (c_52.symm.trans c_92) (by decide)
            | (simp [gaM, c_28, c_52, c_87, c_92]; done)
        · refine ko_iconst (v := 1) dX5_gainOf_95 (by decide) ?_
          refine ko_goto (tgt := 100) dX5_gainOf_96 (by decide) ?_
          refine ko_isub dX5_gainOf_100 ?_
          refine ko_iret dX5_gainOf_101 rfl (Nat.le_of_ble_eq_true rfl) (Nat.le_of_ble_eq_true rfl) ?_
          first
            | exact absurd (c_52.symm.trans c_92) (by decide)
            | (simp [gaM, c_28, c_52, c_87, c_92]; done)
    · refine ko_iload (i := 9) dX5_gainOf_55 rfl ?_
      refine ko_if_ne (tgt := 65) dX5_gainOf_57 (by decide) (fun c_57 => ?_) (fun c_57 => absurd c_57 (by decide))
      refine ko_iconst (v := 1) dX5_gainOf_65 (by decide) ?_
      refine ko_goto (tgt := 70) dX5_gainOf_66 (by decide) ?_
      refine ko_istore (i := 10) (lv' := [(0, _), (1, _), (2, _), (3, _), (4, _), (5, _), (6, _), (7, _), (8, _), (9, _), (10, _)]) dX5_gainOf_70 (by decide) rfl rfl rfl ?_
      refine ko_iload (i := 10) dX5_gainOf_72 rfl ?_
      refine ko_if_eq (tgt := 84) dX5_gainOf_74 (by decide) (fun c_74 => absurd c_74 (by decide)) (fun c_74 => ?_)
      refine ko_iconst (v := 3) dX5_gainOf_77 (by decide) ?_
      refine ko_iload (i := 4) dX5_gainOf_78 rfl ?_
      refine ko_isub dX5_gainOf_80 ?_
      refine ko_goto (tgt := 85) dX5_gainOf_81 (by decide) ?_
      refine ko_iload (i := 4) dX5_gainOf_85 rfl ?_
      refine ko_if_le (tgt := 99) dX5_gainOf_87 (by decide) (fun c_87 => ?_) (fun c_87 => ?_)
      · refine ko_iconst (v := 0) dX5_gainOf_99 (by decide) ?_
        refine ko_isub dX5_gainOf_100 ?_
        refine ko_iret dX5_gainOf_101 rfl (Nat.le_of_ble_eq_true rfl) (Nat.le_of_ble_eq_true rfl) ?_
        first
          | exact absurd (c_52.symm.trans c_92) (by decide)
          | (simp [gaM, c_28, c_52, c_87]; done)
      · refine ko_iload (i := 7) dX5_gainOf_90 rfl ?_
        first | refine ko_ifb_ne (tgt := 99) dX5_gainOf_92 (by decide) (fun c_92 => ?_) (fun c_92 => ?_) | refine ko_if_ne (tgt := 99) dX5_gainOf_92 (by decide) (fun c_92 => ?_) (fun c_92 => ?_)
        · refine ko_iconst (v := 0) dX5_gainOf_99 (by decide) ?_
          refine ko_isub dX5_gainOf_100 ?_
          refine ko_iret dX5_gainOf_101 rfl (Nat.le_of_ble_eq_true rfl) (Nat.le_of_ble_eq_true rfl) ?_
          first
            | exact absurd (c_52.symm.trans c_92) (by decide)
            | (simp [gaM, c_28, c_52, c_87, c_92]; done)
        · refine ko_iconst (v := 1) dX5_gainOf_95 (by decide) ?_
          refine ko_goto (tgt := 100) dX5_gainOf_96 (by decide) ?_
          refine ko_isub dX5_gainOf_100 ?_
          refine ko_iret dX5_gainOf_101 rfl (Nat.le_of_ble_eq_true rfl) (Nat.le_of_ble_eq_true rfl) ?_
          first
            | exact absurd (c_52.symm.trans c_92) (by decide)
            | (simp [gaM, c_28, c_52, c_87, c_92]; done)
  · refine ko_iload (i := 4) dX5_gainOf_31 rfl ?_
    refine ko_iload (i := 5) dX5_gainOf_33 rfl ?_
    refine ko_icmp_ne (tgt := 47) dX5_gainOf_35 (by decide) (fun c_35 => ?_) (fun c_35 => ?_)
    · refine ko_iconst (v := 0) dX5_gainOf_47 (by decide) ?_
      refine ko_istore (i := 9) (lv' := [(0, _), (1, _), (2, _), (3, _), (4, _), (5, _), (6, _), (7, _), (8, _), (9, _)]) dX5_gainOf_48 (by decide) rfl rfl rfl ?_
      refine ko_iload (i := 7) dX5_gainOf_50 rfl ?_
      first | refine ko_ifb_eq (tgt := 69) dX5_gainOf_52 (by decide) (fun c_52 => ?_) (fun c_52 => ?_) | refine ko_if_eq (tgt := 69) dX5_gainOf_52 (by decide) (fun c_52 => ?_) (fun c_52 => ?_)
      · refine ko_iconst (v := 0) dX5_gainOf_69 (by decide) ?_
        refine ko_istore (i := 10) (lv' := [(0, _), (1, _), (2, _), (3, _), (4, _), (5, _), (6, _), (7, _), (8, _), (9, _), (10, _)]) dX5_gainOf_70 (by decide) rfl rfl rfl ?_
        refine ko_iload (i := 10) dX5_gainOf_72 rfl ?_
        refine ko_if_eq (tgt := 84) dX5_gainOf_74 (by decide) (fun c_74 => ?_) (fun c_74 => absurd c_74 (by decide))
        refine ko_iconst (v := 0) dX5_gainOf_84 (by decide) ?_
        refine ko_iload (i := 4) dX5_gainOf_85 rfl ?_
        refine ko_if_le (tgt := 99) dX5_gainOf_87 (by decide) (fun c_87 => ?_) (fun c_87 => ?_)
        · refine ko_iconst (v := 0) dX5_gainOf_99 (by decide) ?_
          refine ko_isub dX5_gainOf_100 ?_
          refine ko_iret dX5_gainOf_101 rfl (Nat.le_of_ble_eq_true rfl) (Nat.le_of_ble_eq_true rfl) ?_
          first
            | exact absurd (c_52.symm.trans c_92) (by decide)
            | (simp [gaM, c_28, c_35, c_52, c_87]; done)
        · refine ko_iload (i := 7) dX5_gainOf_90 rfl ?_
          first | refine ko_ifb_ne (tgt := 99) dX5_gainOf_92 (by decide) (fun c_92 => ?_) (fun c_92 => ?_) | refine ko_if_ne (tgt := 99) dX5_gainOf_92 (by decide) (fun c_92 => ?_) (fun c_92 => ?_)
          · refine ko_iconst (v := 0) dX5_gainOf_99 (by decide) ?_
            refine ko_isub dX5_gainOf_100 ?_
            refine ko_iret dX5_gainOf_101 rfl (Nat.le_of_ble_eq_true rfl) (Nat.le_of_ble_eq_true rfl) ?_
            first
              | exact absurd (c_52.symm.trans c_92) (by decide)
              | (simp [gaM, c_28, c_35, c_52, c_87, c_92]; done)
          · refine ko_iconst (v := 1) dX5_gainOf_95 (by decide) ?_
            refine ko_goto (tgt := 100) dX5_gainOf_96 (by decide) ?_
            refine ko_isub dX5_gainOf_100 ?_
            refine ko_iret dX5_gainOf_101 rfl (Nat.le_of_ble_eq_true rfl) (Nat.le_of_ble_eq_true rfl) ?_
            first
              | exact absurd (c_52.symm.trans c_92) (by decide)
              | (simp [gaM, c_28, c_35, c_52, c_87, c_92]; done)
      · refine ko_iload (i := 9) dX5_gainOf_55 rfl ?_
        refine ko_if_ne (tgt := 65) dX5_gainOf_57 (by decide) (fun c_57 => absurd c_57 (by decide)) (fun c_57 => ?_)
        refine ko_iload (i := 8) dX5_gainOf_60 rfl ?_
        first | refine ko_ifb_ne (tgt := 69) dX5_gainOf_62 (by decide) (fun c_62 => ?_) (fun c_62 => ?_) | refine ko_if_ne (tgt := 69) dX5_gainOf_62 (by decide) (fun c_62 => ?_) (fun c_62 => ?_)
        · refine ko_iconst (v := 0) dX5_gainOf_69 (by decide) ?_
          refine ko_istore (i := 10) (lv' := [(0, _), (1, _), (2, _), (3, _), (4, _), (5, _), (6, _), (7, _), (8, _), (9, _), (10, _)]) dX5_gainOf_70 (by decide) rfl rfl rfl ?_
          refine ko_iload (i := 10) dX5_gainOf_72 rfl ?_
          refine ko_if_eq (tgt := 84) dX5_gainOf_74 (by decide) (fun c_74 => ?_) (fun c_74 => absurd c_74 (by decide))
          refine ko_iconst (v := 0) dX5_gainOf_84 (by decide) ?_
          refine ko_iload (i := 4) dX5_gainOf_85 rfl ?_
          refine ko_if_le (tgt := 99) dX5_gainOf_87 (by decide) (fun c_87 => ?_) (fun c_87 => ?_)
          · refine ko_iconst (v := 0) dX5_gainOf_99 (by decide) ?_
            refine ko_isub dX5_gainOf_100 ?_
            refine ko_iret dX5_gainOf_101 rfl (Nat.le_of_ble_eq_true rfl) (Nat.le_of_ble_eq_true rfl) ?_
            first
              | exact absurd (c_52.symm.trans c_92) (by decide)
              | (simp [gaM, c_28, c_35, c_52, c_62, c_87]; done)
          · refine ko_iload (i := 7) dX5_gainOf_90 rfl ?_
            first | refine ko_ifb_ne (tgt := 99) dX5_gainOf_92 (by decide) (fun c_92 => ?_) (fun c_92 => ?_) | refine ko_if_ne (tgt := 99) dX5_gainOf_92 (by decide) (fun c_92 => ?_) (fun c_92 => ?_)
            · refine ko_iconst (v := 0) dX5_gainOf_99 (by decide) ?_
              refine ko_isub dX5_gainOf_100 ?_
              refine ko_iret dX5_gainOf_101 rfl (Nat.le_of_ble_eq_true rfl) (Nat.le_of_ble_eq_true rfl) ?_
              first
                | exact absurd (c_52.symm.trans c_92) (by decide)
                | (simp [gaM, c_28, c_35, c_52, c_62, c_87, c_92]; done)
            · refine ko_iconst (v := 1) dX5_gainOf_95 (by decide) ?_
              refine ko_goto (tgt := 100) dX5_gainOf_96 (by decide) ?_
              refine ko_isub dX5_gainOf_100 ?_
              refine ko_iret dX5_gainOf_101 rfl (Nat.le_of_ble_eq_true rfl) (Nat.le_of_ble_eq_true rfl) ?_
              first
                | exact absurd (c_52.symm.trans c_92) (by decide)
                | (simp [gaM, c_28, c_35, c_52, c_62, c_87, c_92]; done)
        · refine ko_iconst (v := 1) dX5_gainOf_65 (by decide) ?_
          refine ko_goto (tgt := 70) dX5_gainOf_66 (by decide) ?_
          refine ko_istore (i := 10) (lv' := [(0, _), (1, _), (2, _), (3, _), (4, _), (5, _), (6, _), (7, _), (8, _), (9, _), (10, _)]) dX5_gainOf_70 (by decide) rfl rfl rfl ?_
          refine ko_iload (i := 10) dX5_gainOf_72 rfl ?_
          refine ko_if_eq (tgt := 84) dX5_gainOf_74 (by decide) (fun c_74 => absurd c_74 (by decide)) (fun c_74 => ?_)
          refine ko_iconst (v := 3) dX5_gainOf_77 (by decide) ?_
          refine ko_iload (i := 4) dX5_gainOf_78 rfl ?_
          refine ko_isub dX5_gainOf_80 ?_
          refine ko_goto (tgt := 85) dX5_gainOf_81 (by decide) ?_
          refine ko_iload (i := 4) dX5_gainOf_85 rfl ?_
          refine ko_if_le (tgt := 99) dX5_gainOf_87 (by decide) (fun c_87 => ?_) (fun c_87 => ?_)
          · refine ko_iconst (v := 0) dX5_gainOf_99 (by decide) ?_
            refine ko_isub dX5_gainOf_100 ?_
            refine ko_iret dX5_gainOf_101 rfl (Nat.le_of_ble_eq_true rfl) (Nat.le_of_ble_eq_true rfl) ?_
            first
              | exact absurd (c_52.symm.trans c_92) (by decide)
              | (simp [gaM, c_28, c_35, c_52, c_62, c_87]; done)
          · refine ko_iload (i := 7) dX5_gainOf_90 rfl ?_
            first | refine ko_ifb_ne (tgt := 99) dX5_gainOf_92 (by decide) (fun c_92 => ?_) (fun c_92 => ?_) | refine ko_if_ne (tgt := 99) dX5_gainOf_92 (by decide) (fun c_92 => ?_) (fun c_92 => ?_)
            · refine ko_iconst (v := 0) dX5_gainOf_99 (by decide) ?_
              refine ko_isub dX5_gainOf_100 ?_
              refine ko_iret dX5_gainOf_101 rfl (Nat.le_of_ble_eq_true rfl) (Nat.le_of_ble_eq_true rfl) ?_
              first
                | exact absurd (c_52.symm.trans c_92) (by decide)
                | (simp [gaM, c_28, c_35, c_52, c_62, c_87, c_92]; done)
            · refine ko_iconst (v := 1) dX5_gainOf_95 (by decide) ?_
              refine ko_goto (tgt := 100) dX5_gainOf_96 (by decide) ?_
              refine ko_isub dX5_gainOf_100 ?_
              refine ko_iret dX5_gainOf_101 rfl (Nat.le_of_ble_eq_true rfl) (Nat.le_of_ble_eq_true rfl) ?_
              first
                | exact absurd (c_52.symm.trans c_92) (by decide)
                | (simp [gaM, c_28, c_35, c_52, c_62, c_87, c_92]; done)
    · subst c_35
      have c_35 : True := trivial
      refine ko_iload (i := 6) dX5_gainOf_38 rfl ?_
      first | refine ko_ifb_eq (tgt := 47) dX5_gainOf_40 (by decide) (fun c_40 => ?_) (fun c_40 => ?_) | refine ko_if_eq (tgt := 47) dX5_gainOf_40 (by decide) (fun c_40 => ?_) (fun c_40 => ?_)
      · refine ko_iconst (v := 0) dX5_gainOf_47 (by decide) ?_
        refine ko_istore (i := 9) (lv' := [(0, _), (1, _), (2, _), (3, _), (4, _), (5, _), (6, _), (7, _), (8, _), (9, _)]) dX5_gainOf_48 (by decide) rfl rfl rfl ?_
        refine ko_iload (i := 7) dX5_gainOf_50 rfl ?_
        first | refine ko_ifb_eq (tgt := 69) dX5_gainOf_52 (by decide) (fun c_52 => ?_) (fun c_52 => ?_) | refine ko_if_eq (tgt := 69) dX5_gainOf_52 (by decide) (fun c_52 => ?_) (fun c_52 => ?_)
        · refine ko_iconst (v := 0) dX5_gainOf_69 (by decide) ?_
          refine ko_istore (i := 10) (lv' := [(0, _), (1, _), (2, _), (3, _), (4, _), (5, _), (6, _), (7, _), (8, _), (9, _), (10, _)]) dX5_gainOf_70 (by decide) rfl rfl rfl ?_
          refine ko_iload (i := 10) dX5_gainOf_72 rfl ?_
          refine ko_if_eq (tgt := 84) dX5_gainOf_74 (by decide) (fun c_74 => ?_) (fun c_74 => absurd c_74 (by decide))
          refine ko_iconst (v := 0) dX5_gainOf_84 (by decide) ?_
          refine ko_iload (i := 4) dX5_gainOf_85 rfl ?_
          refine ko_if_le (tgt := 99) dX5_gainOf_87 (by decide) (fun c_87 => ?_) (fun c_87 => ?_)
          · refine ko_iconst (v := 0) dX5_gainOf_99 (by decide) ?_
            refine ko_isub dX5_gainOf_100 ?_
            refine ko_iret dX5_gainOf_101 rfl (Nat.le_of_ble_eq_true rfl) (Nat.le_of_ble_eq_true rfl) ?_
            first
              | exact absurd (c_52.symm.trans c_92) (by decide)
              | (simp [gaM, c_28, c_35, c_40, c_52, c_87]; done)
          · refine ko_iload (i := 7) dX5_gainOf_90 rfl ?_
            first | refine ko_ifb_ne (tgt := 99) dX5_gainOf_92 (by decide) (fun c_92 => ?_) (fun c_92 => ?_) | refine ko_if_ne (tgt := 99) dX5_gainOf_92 (by decide) (fun c_92 => ?_) (fun c_92 => ?_)
            · refine ko_iconst (v := 0) dX5_gainOf_99 (by decide) ?_
              refine ko_isub dX5_gainOf_100 ?_
              refine ko_iret dX5_gainOf_101 rfl (Nat.le_of_ble_eq_true rfl) (Nat.le_of_ble_eq_true rfl) ?_
              first
                | exact absurd (c_52.symm.trans c_92) (by decide)
                | (simp [gaM, c_28, c_35, c_40, c_52, c_87, c_92]; done)
            · refine ko_iconst (v := 1) dX5_gainOf_95 (by decide) ?_
              refine ko_goto (tgt := 100) dX5_gainOf_96 (by decide) ?_
              refine ko_isub dX5_gainOf_100 ?_
              refine ko_iret dX5_gainOf_101 rfl (Nat.le_of_ble_eq_true rfl) (Nat.le_of_ble_eq_true rfl) ?_
              first
                | exact absurd (c_52.symm.trans c_92) (by decide)
                | (simp [gaM, c_28, c_35, c_40, c_52, c_87, c_92]; done)
        · refine ko_iload (i := 9) dX5_gainOf_55 rfl ?_
          refine ko_if_ne (tgt := 65) dX5_gainOf_57 (by decide) (fun c_57 => absurd c_57 (by decide)) (fun c_57 => ?_)
          refine ko_iload (i := 8) dX5_gainOf_60 rfl ?_
          first | refine ko_ifb_ne (tgt := 69) dX5_gainOf_62 (by decide) (fun c_62 => ?_) (fun c_62 => ?_) | refine ko_if_ne (tgt := 69) dX5_gainOf_62 (by decide) (fun c_62 => ?_) (fun c_62 => ?_)
          · refine ko_iconst (v := 0) dX5_gainOf_69 (by decide) ?_
            refine ko_istore (i := 10) (lv' := [(0, _), (1, _), (2, _), (3, _), (4, _), (5, _), (6, _), (7, _), (8, _), (9, _), (10, _)]) dX5_gainOf_70 (by decide) rfl rfl rfl ?_
            refine ko_iload (i := 10) dX5_gainOf_72 rfl ?_
            refine ko_if_eq (tgt := 84) dX5_gainOf_74 (by decide) (fun c_74 => ?_) (fun c_74 => absurd c_74 (by decide))
            refine ko_iconst (v := 0) dX5_gainOf_84 (by decide) ?_
            refine ko_iload (i := 4) dX5_gainOf_85 rfl ?_
            refine ko_if_le (tgt := 99) dX5_gainOf_87 (by decide) (fun c_87 => ?_) (fun c_87 => ?_)
            · refine ko_iconst (v := 0) dX5_gainOf_99 (by decide) ?_
              refine ko_isub dX5_gainOf_100 ?_
              refine ko_iret dX5_gainOf_101 rfl (Nat.le_of_ble_eq_true rfl) (Nat.le_of_ble_eq_true rfl) ?_
              first
                | exact absurd (c_52.symm.trans c_92) (by decide)
                | (simp [gaM, c_28, c_35, c_40, c_52, c_62, c_87]; done)
            · refine ko_iload (i := 7) dX5_gainOf_90 rfl ?_
              first | refine ko_ifb_ne (tgt := 99) dX5_gainOf_92 (by decide) (fun c_92 => ?_) (fun c_92 => ?_) | refine ko_if_ne (tgt := 99) dX5_gainOf_92 (by decide) (fun c_92 => ?_) (fun c_92 => ?_)
              · refine ko_iconst (v := 0) dX5_gainOf_99 (by decide) ?_
                refine ko_isub dX5_gainOf_100 ?_
                refine ko_iret dX5_gainOf_101 rfl (Nat.le_of_ble_eq_true rfl) (Nat.le_of_ble_eq_true rfl) ?_
                first
                  | exact absurd (c_52.symm.trans c_92) (by decide)
                  | (simp [gaM, c_28, c_35, c_40, c_52, c_62, c_87, c_92]; done)
              · refine ko_iconst (v := 1) dX5_gainOf_95 (by decide) ?_
                refine ko_goto (tgt := 100) dX5_gainOf_96 (by decide) ?_
                refine ko_isub dX5_gainOf_100 ?_
                refine ko_iret dX5_gainOf_101 rfl (Nat.le_of_ble_eq_true rfl) (Nat.le_of_ble_eq_true rfl) ?_
                first
                  | exact absurd (c_52.symm.trans c_92) (by decide)
                  | (simp [gaM, c_28, c_35, c_40, c_52, c_62, c_87, c_92]; done)
          · refine ko_iconst (v := 1) dX5_gainOf_65 (by decide) ?_
            refine ko_goto (tgt := 70) dX5_gainOf_66 (by decide) ?_
            refine ko_istore (i := 10) (lv' := [(0, _), (1, _), (2, _), (3, _), (4, _), (5, _), (6, _), (7, _), (8, _), (9, _), (10, _)]) dX5_gainOf_70 (by decide) rfl rfl rfl ?_
            refine ko_iload (i := 10) dX5_gainOf_72 rfl ?_
            refine ko_if_eq (tgt := 84) dX5_gainOf_74 (by decide) (fun c_74 => absurd c_74 (by decide)) (fun c_74 => ?_)
            refine ko_iconst (v := 3) dX5_gainOf_77 (by decide) ?_
            refine ko_iload (i := 4) dX5_gainOf_78 rfl ?_
            refine ko_isub dX5_gainOf_80 ?_
            refine ko_goto (tgt := 85) dX5_gainOf_81 (by decide) ?_
            refine ko_iload (i := 4) dX5_gainOf_85 rfl ?_
            refine ko_if_le (tgt := 99) dX5_gainOf_87 (by decide) (fun c_87 => ?_) (fun c_87 => ?_)
            · refine ko_iconst (v := 0) dX5_gainOf_99 (by decide) ?_
              refine ko_isub dX5_gainOf_100 ?_
              refine ko_iret dX5_gainOf_101 rfl (Nat.le_of_ble_eq_true rfl) (Nat.le_of_ble_eq_true rfl) ?_
              first
                | exact absurd (c_52.symm.trans c_92) (by decide)
                | (simp [gaM, c_28, c_35, c_40, c_52, c_62, c_87]; done)
            · refine ko_iload (i := 7) dX5_gainOf_90 rfl ?_
              first | refine ko_ifb_ne (tgt := 99) dX5_gainOf_92 (by decide) (fun c_92 => ?_) (fun c_92 => ?_) | refine ko_if_ne (tgt := 99) dX5_gainOf_92 (by decide) (fun c_92 => ?_) (fun c_92 => ?_)
              · refine ko_iconst (v := 0) dX5_gainOf_99 (by decide) ?_
                refine ko_isub dX5_gainOf_100 ?_
                refine ko_iret dX5_gainOf_101 rfl (Nat.le_of_ble_eq_true rfl) (Nat.le_of_ble_eq_true rfl) ?_
                first
                  | exact absurd (c_52.symm.trans c_92) (by decide)
                  | (simp [gaM, c_28, c_35, c_40, c_52, c_62, c_87, c_92]; done)
              · refine ko_iconst (v := 1) dX5_gainOf_95 (by decide) ?_
                refine ko_goto (tgt := 100) dX5_gainOf_96 (by decide) ?_
                refine ko_isub dX5_gainOf_100 ?_
                refine ko_iret dX5_gainOf_101 rfl (Nat.le_of_ble_eq_true rfl) (Nat.le_of_ble_eq_true rfl) ?_
                first
                  | exact absurd (c_52.symm.trans c_92) (by decide)
                  | (simp [gaM, c_28, c_35, c_40, c_52, c_62, c_87, c_92]; done)
      · refine ko_iconst (v := 1) dX5_gainOf_43 (by decide) ?_
        refine ko_goto (tgt := 48) dX5_gainOf_44 (by decide) ?_
        refine ko_istore (i := 9) (lv' := [(0, _), (1, _), (2, _), (3, _), (4, _), (5, _), (6, _), (7, _), (8, _), (9, _)]) dX5_gainOf_48 (by decide) rfl rfl rfl ?_
        refine ko_iload (i := 7) dX5_gainOf_50 rfl ?_
        first | refine ko_ifb_eq (tgt := 69) dX5_gainOf_52 (by decide) (fun c_52 => ?_) (fun c_52 => ?_) | refine ko_if_eq (tgt := 69) dX5_gainOf_52 (by decide) (fun c_52 => ?_) (fun c_52 => ?_)
        · refine ko_iconst (v := 0) dX5_gainOf_69 (by decide) ?_
          refine ko_istore (i := 10) (lv' := [(0, _), (1, _), (2, _), (3, _), (4, _), (5, _), (6, _), (7, _), (8, _), (9, _), (10, _)]) dX5_gainOf_70 (by decide) rfl rfl rfl ?_
          refine ko_iload (i := 10) dX5_gainOf_72 rfl ?_
          refine ko_if_eq (tgt := 84) dX5_gainOf_74 (by decide) (fun c_74 => ?_) (fun c_74 => absurd c_74 (by decide))
          refine ko_iconst (v := 0) dX5_gainOf_84 (by decide) ?_
          refine ko_iload (i := 4) dX5_gainOf_85 rfl ?_
          refine ko_if_le (tgt := 99) dX5_gainOf_87 (by decide) (fun c_87 => ?_) (fun c_87 => ?_)
          · refine ko_iconst (v := 0) dX5_gainOf_99 (by decide) ?_
            refine ko_isub dX5_gainOf_100 ?_
            refine ko_iret dX5_gainOf_101 rfl (Nat.le_of_ble_eq_true rfl) (Nat.le_of_ble_eq_true rfl) ?_
            first
              | exact absurd (c_52.symm.trans c_92) (by decide)
              | (simp [gaM, c_28, c_35, c_40, c_52, c_87]; done)
          · refine ko_iload (i := 7) dX5_gainOf_90 rfl ?_
            first | refine ko_ifb_ne (tgt := 99) dX5_gainOf_92 (by decide) (fun c_92 => ?_) (fun c_92 => ?_) | refine ko_if_ne (tgt := 99) dX5_gainOf_92 (by decide) (fun c_92 => ?_) (fun c_92 => ?_)
            · refine ko_iconst (v := 0) dX5_gainOf_99 (by decide) ?_
              refine ko_isub dX5_gainOf_100 ?_
              refine ko_iret dX5_gainOf_101 rfl (Nat.le_of_ble_eq_true rfl) (Nat.le_of_ble_eq_true rfl) ?_
              first
                | exact absurd (c_52.symm.trans c_92) (by decide)
                | (simp [gaM, c_28, c_35, c_40, c_52, c_87, c_92]; done)
            · refine ko_iconst (v := 1) dX5_gainOf_95 (by decide) ?_
              refine ko_goto (tgt := 100) dX5_gainOf_96 (by decide) ?_
              refine ko_isub dX5_gainOf_100 ?_
              refine ko_iret dX5_gainOf_101 rfl (Nat.le_of_ble_eq_true rfl) (Nat.le_of_ble_eq_true rfl) ?_
              first
                | exact absurd (c_52.symm.trans c_92) (by decide)
                | (simp [gaM, c_28, c_35, c_40, c_52, c_87, c_92]; done)
        · refine ko_iload (i := 9) dX5_gainOf_55 rfl ?_
          refine ko_if_ne (tgt := 65) dX5_gainOf_57 (by decide) (fun c_57 => ?_) (fun c_57 => absurd c_57 (by decide))
          refine ko_iconst (v := 1) dX5_gainOf_65 (by decide) ?_
          refine ko_goto (tgt := 70) dX5_gainOf_66 (by decide) ?_
          refine ko_istore (i := 10) (lv' := [(0, _), (1, _), (2, _), (3, _), (4, _), (5, _), (6, _), (7, _), (8, _), (9, _), (10, _)]) dX5_gainOf_70 (by decide) rfl rfl rfl ?_
          refine ko_iload (i := 10) dX5_gainOf_72 rfl ?_
          refine ko_if_eq (tgt := 84) dX5_gainOf_74 (by decide) (fun c_74 => absurd c_74 (by decide)) (fun c_74 => ?_)
          refine ko_iconst (v := 3) dX5_gainOf_77 (by decide) ?_
          refine ko_iload (i := 4) dX5_gainOf_78 rfl ?_
          refine ko_isub dX5_gainOf_80 ?_
          refine ko_goto (tgt := 85) dX5_gainOf_81 (by decide) ?_
          refine ko_iload (i := 4) dX5_gainOf_85 rfl ?_
          refine ko_if_le (tgt := 99) dX5_gainOf_87 (by decide) (fun c_87 => ?_) (fun c_87 => ?_)
          · refine ko_iconst (v := 0) dX5_gainOf_99 (by decide) ?_
            refine ko_isub dX5_gainOf_100 ?_
            refine ko_iret dX5_gainOf_101 rfl (Nat.le_of_ble_eq_true rfl) (Nat.le_of_ble_eq_true rfl) ?_
            first
              | exact absurd (c_52.symm.trans c_92) (by decide)
              | (simp [gaM, c_28, c_35, c_40, c_52, c_87]; done)
          · refine ko_iload (i := 7) dX5_gainOf_90 rfl ?_
            first | refine ko_ifb_ne (tgt := 99) dX5_gainOf_92 (by decide) (fun c_92 => ?_) (fun c_92 => ?_) | refine ko_if_ne (tgt := 99) dX5_gainOf_92 (by decide) (fun c_92 => ?_) (fun c_92 => ?_)
            · refine ko_iconst (v := 0) dX5_gainOf_99 (by decide) ?_
              refine ko_isub dX5_gainOf_100 ?_
              refine ko_iret dX5_gainOf_101 rfl (Nat.le_of_ble_eq_true rfl) (Nat.le_of_ble_eq_true rfl) ?_
              first
                | exact absurd (c_52.symm.trans c_92) (by decide)
                | (simp [gaM, c_28, c_35, c_40, c_52, c_87, c_92]; done)
            · refine ko_iconst (v := 1) dX5_gainOf_95 (by decide) ?_
              refine ko_goto (tgt := 100) dX5_gainOf_96 (by decide) ?_
              refine ko_isub dX5_gainOf_100 ?_
              refine ko_iret dX5_gainOf_101 rfl (Nat.le_of_ble_eq_true rfl) (Nat.le_of_ble_eq_true rfl) ?_
              first
                | exact absurd (c_52.symm.trans c_92) (by decide)
                | (simp [gaM, c_28, c_35, c_40, c_52, c_87, c_92]; done)
set_option maxRecDepth 20000 in
theorem fn_findRests {G : kx_G} {d N m n : Nat} {h : kx_H} {o : MO} {Kf f : Nat → Int32} {u : PU} {i j q : Nat} (o0 : h m = some (kmo m o)) (k0 : h (m + 2) = some (ka 5 Kf)) (hk : ∀ j, j < n → Kf j = pKd u j) (t0 : h (m + 5) = some (ka 43 f)) (hp : pgR f u) (hw : WF u n) (hpi : i < n) (hpj : j < n) (hq : q < n) (hd : 4 ≤ d) : kx_Fn mX5_findRests d 0 0 G [.ref m, .int (nI i), .int (nI j), .int (nI q)] N h (none, N, (kx_up h m (kmo m (mTs o, mPl o, mN o, mRp o, mAc o, mSd o, mSm o, mSo o, mSw o, (feI (mayI u (nI i) (nI q)) (mayI u (nI j) (nI q)) 4).1, (feI (mayI u (nI i) (nI q)) (mayI u (nI j) (nI q)) 4).2)))) := by
  refine kx_Fn_of rfl (Nat.le_of_ble_eq_true rfl) rfl ?_ (ku_dom o0)
  have LA : ∀ (ka9 a : Nat), ka9 + a = 4 → kx_Ok mX5_findRests d 0 0 G 0 0 14 [(0, .ref m), (1, .int (nI i)), (2, .int (nI j)), (3, .int (nI q)), (4, .int (nI a))] [] N (kx_up h m (kmo m (mTs o, mPl o, mN o, mRp o, mAc o, mSd o, mSm o, mSo o, mSw o, (feI (mayI u (nI i) (nI q)) (mayI u (nI j) (nI q)) a).1, (feI (mayI u (nI i) (nI q)) (mayI u (nI j) (nI q)) a).2))) (none, N, (kx_up h m (kmo m (mTs o, mPl o, mN o, mRp o, mAc o, mSd o, mSm o, mSo o, mSw o, (feI (mayI u (nI i) (nI q)) (mayI u (nI j) (nI q)) 4).1, (feI (mayI u (nI i) (nI q)) (mayI u (nI j) (nI q)) 4).2)))) := by
    intro ka9
    induction ka9 with
    | zero =>
      intro a hi
      obtain rfl : a = 4 := by omega
      refine ko_iload (i := 4) dX5_findRests_14 rfl ?_
      refine ko_iconst (v := 4) dX5_findRests_16 (by decide) ?_
      refine ko_icmp_ge (tgt := 183) dX5_findRests_17 (by decide) (fun c_17 => ?_) (fun c_17 => ?_)
      · refine ko_vret dX5_findRests_183 rfl (Nat.le_of_ble_eq_true rfl) (Nat.le_of_ble_eq_true rfl) ?_
        rfl
      · exact absurd (show (4 : Int32) ≤ nI 4 by decide) c_17
    | succ ka9 iha =>
      intro a hi
      have LB : ∀ (kb9 b : Nat), kb9 + b = 4 → kx_Ok mX5_findRests d 0 0 G 0 0 23 [(0, .ref m), (1, .int (nI i)), (2, .int (nI j)), (3, .int (nI q)), (4, .int (nI a)), (5, .int (nI b))] [] N (kx_up h m (kmo m (mTs o, mPl o, mN o, mRp o, mAc o, mSd o, mSm o, mSo o, mSw o, (feJ (mayI u (nI i) (nI q)) (mayI u (nI j) (nI q)) a b (feI (mayI u (nI i) (nI q)) (mayI u (nI j) (nI q)) a)).1, (feJ (mayI u (nI i) (nI q)) (mayI u (nI j) (nI q)) a b (feI (mayI u (nI i) (nI q)) (mayI u (nI j) (nI q)) a)).2))) (none, N, (kx_up h m (kmo m (mTs o, mPl o, mN o, mRp o, mAc o, mSd o, mSm o, mSo o, mSw o, (feI (mayI u (nI i) (nI q)) (mayI u (nI j) (nI q)) 4).1, (feI (mayI u (nI i) (nI q)) (mayI u (nI j) (nI q)) 4).2)))) := by
        intro kb9
        induction kb9 with
        | zero =>
          intro b hi
          obtain rfl : b = 4 := by omega
          refine ko_iload (i := 5) dX5_findRests_23 rfl ?_
          refine ko_iconst (v := 4) dX5_findRests_25 (by decide) ?_
          refine ko_icmp_ge (tgt := 177) dX5_findRests_26 (by decide) (fun c_26 => ?_) (fun c_26 => ?_)
          · refine ko_inc1 (i := 4) (lv' := [(0, _), (1, _), (2, _), (3, _), (4, _), (5, _)]) dX5_findRests_177 rfl (by decide) rfl rfl rfl ?_
            refine ko_goto (tgt := 14) dX5_findRests_180 (by decide) ?_
            refine ko_keep [0, 1, 2, 3, 4] (lv' := [(0, _), (1, _), (2, _), (3, _), (4, .int (nI a + 1))]) rfl ?_
            have ei := iha (a + 1) (by omega)
            rw [nI_succ] at ei
            exact ei
          · exact absurd (show (4 : Int32) ≤ nI 4 by decide) c_26
        | succ kb9 ihb =>
          intro b hi
          have LK : ∀ (kk9 k9 : Nat), kk9 + k9 = 4 → kx_Ok mX5_findRests d 0 0 G 0 0 63 [(0, .ref m), (1, .int (nI i)), (2, .int (nI j)), (3, .int (nI q)), (4, .int (nI a)), (5, .int (nI b)), (6, .int (gaM (mayI u (nI i) (nI q)) (mayI u (nI j) (nI q)) (nI a) (nI b) true)), (7, .int (gaM (mayI u (nI j) (nI q)) (mayI u (nI i) (nI q)) (nI b) (nI a) false)), (8, .int (kb (fsB (mayI u (nI i) (nI q)) (mayI u (nI j) (nI q)) a b k9))), (9, .int (nI k9))] [] N (kx_up h m (kmo m (mTs o, mPl o, mN o, mRp o, mAc o, mSd o, mSm o, mSo o, mSw o, (feJ (mayI u (nI i) (nI q)) (mayI u (nI j) (nI q)) a b (feI (mayI u (nI i) (nI q)) (mayI u (nI j) (nI q)) a)).1, (feJ (mayI u (nI i) (nI q)) (mayI u (nI j) (nI q)) a b (feI (mayI u (nI i) (nI q)) (mayI u (nI j) (nI q)) a)).2))) (none, N, (kx_up h m (kmo m (mTs o, mPl o, mN o, mRp o, mAc o, mSd o, mSm o, mSo o, mSw o, (feI (mayI u (nI i) (nI q)) (mayI u (nI j) (nI q)) 4).1, (feI (mayI u (nI i) (nI q)) (mayI u (nI j) (nI q)) 4).2)))) := by
            intro kk9
            induction kk9 with
            | zero =>
              intro k9 hi
              obtain rfl : k9 = 4 := by omega
              refine ko_iload (i := 9) dX5_findRests_63 rfl ?_
              refine ko_iconst (v := 4) dX5_findRests_65 (by decide) ?_
              refine ko_icmp_ge (tgt := 121) dX5_findRests_66 (by decide) (fun c_66 => ?_) (fun c_66 => ?_)
              · refine ko_aload_n (i := 0) dX5_findRests_121 rfl rfl ?_
                refine ko_iload (i := 8) dX5_findRests_122 rfl ?_
                first | refine ko_ifb_eq (tgt := 145) dX5_findRests_124 (by decide) (fun c_124 => ?_) (fun c_124 => ?_) | refine ko_if_eq (tgt := 145) dX5_findRests_124 (by decide) (fun c_124 => ?_) (fun c_124 => ?_)
                · refine ko_aload_n (i := 0) dX5_findRests_145 rfl rfl ?_
                  refine ko_get fl_X5_173 dX5_findRests_146 ku_s rfl ?_
                  refine ko_st (st' := [.int (feJ (mayI u (nI i) (nI q)) (mayI u (nI j) (nI q)) a (b + 1) (feI (mayI u (nI i) (nI q)) (mayI u (nI j) (nI q)) a)).2, .ref m]) (by simp [feJ, c_66, c_124]) ?_
                  refine ko_put fl_X5_173 dX5_findRests_149 ku_s rfl rfl (Nat.le_of_ble_eq_true rfl) ?_
                  refine ko_h (ku_ku _ _ _ _) ?_
                  refine ko_h (h' := (kx_up h m (kmo m (mTs o, mPl o, mN o, mRp o, mAc o, mSd o, mSm o, mSo o, mSw o, (feJ (mayI u (nI i) (nI q)) (mayI u (nI j) (nI q)) a b (feI (mayI u (nI i) (nI q)) (mayI u (nI j) (nI q)) a)).1, (feJ (mayI u (nI i) (nI q)) (mayI u (nI j) (nI q)) a (b + 1) (feI (mayI u (nI i) (nI q)) (mayI u (nI j) (nI q)) a)).2)))) rfl ?_
                  refine ko_aload_n (i := 0) dX5_findRests_152 rfl rfl ?_
                  refine ko_dup dX5_findRests_153 rfl ?_
                  refine ko_get fl_X5_170 dX5_findRests_154 ku_s rfl ?_
                  refine ko_iload (i := 8) dX5_findRests_157 rfl ?_
                  first | refine ko_ifb_eq (tgt := 166) dX5_findRests_159 (by decide) (fun c_159 => ?_) (fun c_159 => ?_) | refine ko_if_eq (tgt := 166) dX5_findRests_159 (by decide) (fun c_159 => ?_) (fun c_159 => ?_)
                  · refine ko_iconst (v := 0) dX5_findRests_166 (by decide) ?_
                    refine ko_iadd dX5_findRests_167 ?_
                    refine ko_st (st' := [.int (feJ (mayI u (nI i) (nI q)) (mayI u (nI j) (nI q)) a (b + 1) (feI (mayI u (nI i) (nI q)) (mayI u (nI j) (nI q)) a)).1, .ref m]) (by first | exact absurd (c_124.symm.trans c_159) (by decide) | (simp [feJ, c_66, c_124, c_159]; done)) ?_
                    refine ko_put fl_X5_170 dX5_findRests_168 ku_s rfl rfl (Nat.le_of_ble_eq_true rfl) ?_
                    refine ko_h (ku_ku _ _ _ _) ?_
                    refine ko_h (h' := (kx_up h m (kmo m (mTs o, mPl o, mN o, mRp o, mAc o, mSd o, mSm o, mSo o, mSw o, (feJ (mayI u (nI i) (nI q)) (mayI u (nI j) (nI q)) a (b + 1) (feI (mayI u (nI i) (nI q)) (mayI u (nI j) (nI q)) a)).1, (feJ (mayI u (nI i) (nI q)) (mayI u (nI j) (nI q)) a (b + 1) (feI (mayI u (nI i) (nI q)) (mayI u (nI j) (nI q)) a)).2)))) rfl ?_
                    refine ko_inc1 (i := 5) (lv' := [(0, _), (1, _), (2, _), (3, _), (4, _), (5, _), (6, _), (7, _), (8, _), (9, _)]) dX5_findRests_171 rfl (by decide) rfl rfl rfl ?_
                    refine ko_goto (tgt := 23) dX5_findRests_174 (by decide) ?_
                    refine ko_keep [0, 1, 2, 3, 4, 5] (lv' := [(0, _), (1, _), (2, _), (3, _), (4, _), (5, .int (nI b + 1))]) rfl ?_
                    have ei := ihb (b + 1) (by omega)
                    rw [nI_succ] at ei
                    exact ei
                  · refine ko_iconst (v := 1) dX5_findRests_162 (by decide) ?_
                    refine ko_goto (tgt := 167) dX5_findRests_163 (by decide) ?_
                    refine ko_iadd dX5_findRests_167 ?_
                    refine ko_st (st' := [.int (feJ (mayI u (nI i) (nI q)) (mayI u (nI j) (nI q)) a (b + 1) (feI (mayI u (nI i) (nI q)) (mayI u (nI j) (nI q)) a)).1, .ref m]) (by first | exact absurd (c_124.symm.trans c_159) (by decide) | (simp [feJ, c_66, c_124, c_159]; done)) ?_
                    refine ko_put fl_X5_170 dX5_findRests_168 ku_s rfl rfl (Nat.le_of_ble_eq_true rfl) ?_
                    refine ko_h (ku_ku _ _ _ _) ?_
                    refine ko_h (h' := (kx_up h m (kmo m (mTs o, mPl o, mN o, mRp o, mAc o, mSd o, mSm o, mSo o, mSw o, (feJ (mayI u (nI i) (nI q)) (mayI u (nI j) (nI q)) a (b + 1) (feI (mayI u (nI i) (nI q)) (mayI u (nI j) (nI q)) a)).1, (feJ (mayI u (nI i) (nI q)) (mayI u (nI j) (nI q)) a (b + 1) (feI (mayI u (nI i) (nI q)) (mayI u (nI j) (nI q)) a)).2)))) rfl ?_
                    refine ko_inc1 (i := 5) (lv' := [(0, _), (1, _), (2, _), (3, _), (4, _), (5, _), (6, _), (7, _), (8, _), (9, _)]) dX5_findRests_171 rfl (by decide) rfl rfl rfl ?_
                    refine ko_goto (tgt := 23) dX5_findRests_174 (by decide) ?_
                    refine ko_keep [0, 1, 2, 3, 4, 5] (lv' := [(0, _), (1, _), (2, _), (3, _), (4, _), (5, .int (nI b + 1))]) rfl ?_
                    have ei := ihb (b + 1) (by omega)
                    rw [nI_succ] at ei
                    exact ei
                · refine ko_aload_n (i := 0) dX5_findRests_127 rfl rfl ?_
                  refine ko_get fl_X5_170 dX5_findRests_128 ku_s rfl ?_
                  refine ko_if_ne (tgt := 145) dX5_findRests_131 (by decide) (fun c_131 => ?_) (fun c_131 => ?_)
                  · have c_131 : ¬ (feJ (mayI u (nI i) (nI q)) (mayI u (nI j) (nI q)) a b (feI (mayI u (nI i) (nI q)) (mayI u (nI j) (nI q)) a)).1 = 0 := c_131
                    refine ko_aload_n (i := 0) dX5_findRests_145 rfl rfl ?_
                    refine ko_get fl_X5_173 dX5_findRests_146 ku_s rfl ?_
                    refine ko_st (st' := [.int (feJ (mayI u (nI i) (nI q)) (mayI u (nI j) (nI q)) a (b + 1) (feI (mayI u (nI i) (nI q)) (mayI u (nI j) (nI q)) a)).2, .ref m]) (by simp [feJ, c_66, c_124, c_131]) ?_
                    refine ko_put fl_X5_173 dX5_findRests_149 ku_s rfl rfl (Nat.le_of_ble_eq_true rfl) ?_
                    refine ko_h (ku_ku _ _ _ _) ?_
                    refine ko_h (h' := (kx_up h m (kmo m (mTs o, mPl o, mN o, mRp o, mAc o, mSd o, mSm o, mSo o, mSw o, (feJ (mayI u (nI i) (nI q)) (mayI u (nI j) (nI q)) a b (feI (mayI u (nI i) (nI q)) (mayI u (nI j) (nI q)) a)).1, (feJ (mayI u (nI i) (nI q)) (mayI u (nI j) (nI q)) a (b + 1) (feI (mayI u (nI i) (nI q)) (mayI u (nI j) (nI q)) a)).2)))) rfl ?_
                    refine ko_aload_n (i := 0) dX5_findRests_152 rfl rfl ?_
                    refine ko_dup dX5_findRests_153 rfl ?_
                    refine ko_get fl_X5_170 dX5_findRests_154 ku_s rfl ?_
                    refine ko_iload (i := 8) dX5_findRests_157 rfl ?_
                    first | refine ko_ifb_eq (tgt := 166) dX5_findRests_159 (by decide) (fun c_159 => ?_) (fun c_159 => ?_) | refine ko_if_eq (tgt := 166) dX5_findRests_159 (by decide) (fun c_159 => ?_) (fun c_159 => ?_)
                    · refine ko_iconst (v := 0) dX5_findRests_166 (by decide) ?_
                      refine ko_iadd dX5_findRests_167 ?_
                      refine ko_st (st' := [.int (feJ (mayI u (nI i) (nI q)) (mayI u (nI j) (nI q)) a (b + 1) (feI (mayI u (nI i) (nI q)) (mayI u (nI j) (nI q)) a)).1, .ref m]) (by first | exact absurd (c_124.symm.trans c_159) (by decide) | (simp [feJ, c_66, c_124, c_131, c_159]; done)) ?_
                      refine ko_put fl_X5_170 dX5_findRests_168 ku_s rfl rfl (Nat.le_of_ble_eq_true rfl) ?_
                      refine ko_h (ku_ku _ _ _ _) ?_
                      refine ko_h (h' := (kx_up h m (kmo m (mTs o, mPl o, mN o, mRp o, mAc o, mSd o, mSm o, mSo o, mSw o, (feJ (mayI u (nI i) (nI q)) (mayI u (nI j) (nI q)) a (b + 1) (feI (mayI u (nI i) (nI q)) (mayI u (nI j) (nI q)) a)).1, (feJ (mayI u (nI i) (nI q)) (mayI u (nI j) (nI q)) a (b + 1) (feI (mayI u (nI i) (nI q)) (mayI u (nI j) (nI q)) a)).2)))) rfl ?_
                      refine ko_inc1 (i := 5) (lv' := [(0, _), (1, _), (2, _), (3, _), (4, _), (5, _), (6, _), (7, _), (8, _), (9, _)]) dX5_findRests_171 rfl (by decide) rfl rfl rfl ?_
                      refine ko_goto (tgt := 23) dX5_findRests_174 (by decide) ?_
                      refine ko_keep [0, 1, 2, 3, 4, 5] (lv' := [(0, _), (1, _), (2, _), (3, _), (4, _), (5, .int (nI b + 1))]) rfl ?_
                      have ei := ihb (b + 1) (by omega)
                      rw [nI_succ] at ei
                      exact ei
                    · refine ko_iconst (v := 1) dX5_findRests_162 (by decide) ?_
                      refine ko_goto (tgt := 167) dX5_findRests_163 (by decide) ?_
                      refine ko_iadd dX5_findRests_167 ?_
                      refine ko_st (st' := [.int (feJ (mayI u (nI i) (nI q)) (mayI u (nI j) (nI q)) a (b + 1) (feI (mayI u (nI i) (nI q)) (mayI u (nI j) (nI q)) a)).1, .ref m]) (by first | exact absurd (c_124.symm.trans c_159) (by decide) | (simp [feJ, c_66, c_124, c_131, c_159]; done)) ?_
                      refine ko_put fl_X5_170 dX5_findRests_168 ku_s rfl rfl (Nat.le_of_ble_eq_true rfl) ?_
                      refine ko_h (ku_ku _ _ _ _) ?_
                      refine ko_h (h' := (kx_up h m (kmo m (mTs o, mPl o, mN o, mRp o, mAc o, mSd o, mSm o, mSo o, mSw o, (feJ (mayI u (nI i) (nI q)) (mayI u (nI j) (nI q)) a (b + 1) (feI (mayI u (nI i) (nI q)) (mayI u (nI j) (nI q)) a)).1, (feJ (mayI u (nI i) (nI q)) (mayI u (nI j) (nI q)) a (b + 1) (feI (mayI u (nI i) (nI q)) (mayI u (nI j) (nI q)) a)).2)))) rfl ?_
                      refine ko_inc1 (i := 5) (lv' := [(0, _), (1, _), (2, _), (3, _), (4, _), (5, _), (6, _), (7, _), (8, _), (9, _)]) dX5_findRests_171 rfl (by decide) rfl rfl rfl ?_
                      refine ko_goto (tgt := 23) dX5_findRests_174 (by decide) ?_
                      refine ko_keep [0, 1, 2, 3, 4, 5] (lv' := [(0, _), (1, _), (2, _), (3, _), (4, _), (5, .int (nI b + 1))]) rfl ?_
                      have ei := ihb (b + 1) (by omega)
                      rw [nI_succ] at ei
                      exact ei
                  · have c_131 : (feJ (mayI u (nI i) (nI q)) (mayI u (nI j) (nI q)) a b (feI (mayI u (nI i) (nI q)) (mayI u (nI j) (nI q)) a)).1 = 0 := c_131
                    refine ko_bipush (v := 10) dX5_findRests_134 (by decide) ?_
                    refine ko_iload (i := 4) dX5_findRests_136 rfl ?_
                    refine ko_imul dX5_findRests_138 ?_
                    refine ko_iload (i := 5) dX5_findRests_139 rfl ?_
                    refine ko_iadd dX5_findRests_141 ?_
                    refine ko_goto (tgt := 149) dX5_findRests_142 (by decide) ?_
                    refine ko_st (st' := [.int (feJ (mayI u (nI i) (nI q)) (mayI u (nI j) (nI q)) a (b + 1) (feI (mayI u (nI i) (nI q)) (mayI u (nI j) (nI q)) a)).2, .ref m]) (by simp [feJ, c_66, c_124, c_131]) ?_
                    refine ko_put fl_X5_173 dX5_findRests_149 ku_s rfl rfl (Nat.le_of_ble_eq_true rfl) ?_
                    refine ko_h (ku_ku _ _ _ _) ?_
                    refine ko_h (h' := (kx_up h m (kmo m (mTs o, mPl o, mN o, mRp o, mAc o, mSd o, mSm o, mSo o, mSw o, (feJ (mayI u (nI i) (nI q)) (mayI u (nI j) (nI q)) a b (feI (mayI u (nI i) (nI q)) (mayI u (nI j) (nI q)) a)).1, (feJ (mayI u (nI i) (nI q)) (mayI u (nI j) (nI q)) a (b + 1) (feI (mayI u (nI i) (nI q)) (mayI u (nI j) (nI q)) a)).2)))) rfl ?_
                    refine ko_aload_n (i := 0) dX5_findRests_152 rfl rfl ?_
                    refine ko_dup dX5_findRests_153 rfl ?_
                    refine ko_get fl_X5_170 dX5_findRests_154 ku_s rfl ?_
                    refine ko_iload (i := 8) dX5_findRests_157 rfl ?_
                    first | refine ko_ifb_eq (tgt := 166) dX5_findRests_159 (by decide) (fun c_159 => ?_) (fun c_159 => ?_) | refine ko_if_eq (tgt := 166) dX5_findRests_159 (by decide) (fun c_159 => ?_) (fun c_159 => ?_)
                    · refine ko_iconst (v := 0) dX5_findRests_166 (by decide) ?_
                      refine ko_iadd dX5_findRests_167 ?_
                      refine ko_st (st' := [.int (feJ (mayI u (nI i) (nI q)) (mayI u (nI j) (nI q)) a (b + 1) (feI (mayI u (nI i) (nI q)) (mayI u (nI j) (nI q)) a)).1, .ref m]) (by first | exact absurd (c_124.symm.trans c_159) (by decide) | (simp [feJ, c_66, c_124, c_131, c_159]; done)) ?_
                      refine ko_put fl_X5_170 dX5_findRests_168 ku_s rfl rfl (Nat.le_of_ble_eq_true rfl) ?_
                      refine ko_h (ku_ku _ _ _ _) ?_
                      refine ko_h (h' := (kx_up h m (kmo m (mTs o, mPl o, mN o, mRp o, mAc o, mSd o, mSm o, mSo o, mSw o, (feJ (mayI u (nI i) (nI q)) (mayI u (nI j) (nI q)) a (b + 1) (feI (mayI u (nI i) (nI q)) (mayI u (nI j) (nI q)) a)).1, (feJ (mayI u (nI i) (nI q)) (mayI u (nI j) (nI q)) a (b + 1) (feI (mayI u (nI i) (nI q)) (mayI u (nI j) (nI q)) a)).2)))) rfl ?_
                      refine ko_inc1 (i := 5) (lv' := [(0, _), (1, _), (2, _), (3, _), (4, _), (5, _), (6, _), (7, _), (8, _), (9, _)]) dX5_findRests_171 rfl (by decide) rfl rfl rfl ?_
                      refine ko_goto (tgt := 23) dX5_findRests_174 (by decide) ?_
                      refine ko_keep [0, 1, 2, 3, 4, 5] (lv' := [(0, _), (1, _), (2, _), (3, _), (4, _), (5, .int (nI b + 1))]) rfl ?_
                      have ei := ihb (b + 1) (by omega)
                      rw [nI_succ] at ei
                      exact ei
                    · refine ko_iconst (v := 1) dX5_findRests_162 (by decide) ?_
                      refine ko_goto (tgt := 167) dX5_findRests_163 (by decide) ?_
                      refine ko_iadd dX5_findRests_167 ?_
                      refine ko_st (st' := [.int (feJ (mayI u (nI i) (nI q)) (mayI u (nI j) (nI q)) a (b + 1) (feI (mayI u (nI i) (nI q)) (mayI u (nI j) (nI q)) a)).1, .ref m]) (by first | exact absurd (c_124.symm.trans c_159) (by decide) | (simp [feJ, c_66, c_124, c_131, c_159]; done)) ?_
                      refine ko_put fl_X5_170 dX5_findRests_168 ku_s rfl rfl (Nat.le_of_ble_eq_true rfl) ?_
                      refine ko_h (ku_ku _ _ _ _) ?_
                      refine ko_h (h' := (kx_up h m (kmo m (mTs o, mPl o, mN o, mRp o, mAc o, mSd o, mSm o, mSo o, mSw o, (feJ (mayI u (nI i) (nI q)) (mayI u (nI j) (nI q)) a (b + 1) (feI (mayI u (nI i) (nI q)) (mayI u (nI j) (nI q)) a)).1, (feJ (mayI u (nI i) (nI q)) (mayI u (nI j) (nI q)) a (b + 1) (feI (mayI u (nI i) (nI q)) (mayI u (nI j) (nI q)) a)).2)))) rfl ?_
                      refine ko_inc1 (i := 5) (lv' := [(0, _), (1, _), (2, _), (3, _), (4, _), (5, _), (6, _), (7, _), (8, _), (9, _)]) dX5_findRests_171 rfl (by decide) rfl rfl rfl ?_
                      refine ko_goto (tgt := 23) dX5_findRests_174 (by decide) ?_
                      refine ko_keep [0, 1, 2, 3, 4, 5] (lv' := [(0, _), (1, _), (2, _), (3, _), (4, _), (5, .int (nI b + 1))]) rfl ?_
                      have ei := ihb (b + 1) (by omega)
                      rw [nI_succ] at ei
                      exact ei
              · exact absurd (show (4 : Int32) ≤ nI 4 by decide) c_66
            | succ kk9 ihk =>
              intro k9 hi
              refine ko_iload (i := 9) dX5_findRests_63 rfl ?_
              refine ko_iconst (v := 4) dX5_findRests_65 (by decide) ?_
              refine ko_icmp_ge (tgt := 121) dX5_findRests_66 (by decide) (fun c_66 => ?_) (fun c_66 => ?_)
              · exact absurd (show nI 4 ≤ nI k9 from c_66) (nI_ge (by omega) (by omega))
              · refine ko_iload (i := 8) dX5_findRests_69 rfl ?_
                first | refine ko_ifb_eq (tgt := 112) dX5_findRests_71 (by decide) (fun c_71 => ?_) (fun c_71 => ?_) | refine ko_if_eq (tgt := 112) dX5_findRests_71 (by decide) (fun c_71 => ?_) (fun c_71 => ?_)
                · refine ko_iconst (v := 0) dX5_findRests_112 (by decide) ?_
                  refine ko_istore (i := 8) (lv' := [(0, _), (1, _), (2, _), (3, _), (4, _), (5, _), (6, _), (7, _), (8, _), (9, _)]) dX5_findRests_113 (by decide) rfl rfl rfl ?_
                  refine ko_inc1 (i := 9) (lv' := [(0, _), (1, _), (2, _), (3, _), (4, _), (5, _), (6, _), (7, _), (8, _), (9, _)]) dX5_findRests_115 rfl (by decide) rfl rfl rfl ?_
                  refine ko_goto (tgt := 63) dX5_findRests_118 (by decide) ?_
                  exact ko_lv (by simp [fsB, kb, nI_succ, c_66, c_71]) (ihk (k9 + 1) (by omega))
                · refine ko_aload_n (i := 0) dX5_findRests_74 rfl rfl ?_
                  refine ko_iload_n (i := 1) dX5_findRests_75 rfl rfl ?_
                  refine ko_iload_n (i := 2) dX5_findRests_76 rfl rfl ?_
                  refine ko_iload_n (i := 3) dX5_findRests_77 rfl rfl ?_
                  refine ko_iload (i := 9) dX5_findRests_78 rfl ?_
                  refine ko_iload (i := 5) dX5_findRests_80 rfl ?_
                  refine ko_iconst (v := 1) dX5_findRests_82 (by decide) ?_
                  refine ko_callVr lk_X5_176 dX5_findRests_83 (fn_gainOf (d := d - 1) ku_s ((ku_n (by omega)).trans k0) hk ((ku_n (by omega)).trans t0) hp hw hpi hpj hq (by omega) (first := true)) rfl rfl ku_s rfl rfl (by omega) (by omega) (by omega) (Nat.le_of_ble_eq_true rfl) ?_
                  refine ko_iload (i := 6) dX5_findRests_86 rfl ?_
                  refine ko_icmp_gt (tgt := 112) dX5_findRests_88 (by decide) (fun c_88 => ?_) (fun c_88 => ?_)
                  · refine ko_iconst (v := 0) dX5_findRests_112 (by decide) ?_
                    refine ko_istore (i := 8) (lv' := [(0, _), (1, _), (2, _), (3, _), (4, _), (5, _), (6, _), (7, _), (8, _), (9, _)]) dX5_findRests_113 (by decide) rfl rfl rfl ?_
                    refine ko_inc1 (i := 9) (lv' := [(0, _), (1, _), (2, _), (3, _), (4, _), (5, _), (6, _), (7, _), (8, _), (9, _)]) dX5_findRests_115 rfl (by decide) rfl rfl rfl ?_
                    refine ko_goto (tgt := 63) dX5_findRests_118 (by decide) ?_
                    exact ko_lv (by simp [fsB, kb, nI_succ, c_66, c_71, c_88]) (ihk (k9 + 1) (by omega))
                  · refine ko_aload_n (i := 0) dX5_findRests_91 rfl rfl ?_
                    refine ko_iload_n (i := 2) dX5_findRests_92 rfl rfl ?_
                    refine ko_iload_n (i := 1) dX5_findRests_93 rfl rfl ?_
                    refine ko_iload_n (i := 3) dX5_findRests_94 rfl rfl ?_
                    refine ko_iload (i := 9) dX5_findRests_95 rfl ?_
                    refine ko_iload (i := 4) dX5_findRests_97 rfl ?_
                    refine ko_iconst (v := 0) dX5_findRests_99 (by decide) ?_
                    refine ko_callVr lk_X5_176 dX5_findRests_100 (fn_gainOf (d := d - 1) ku_s ((ku_n (by omega)).trans k0) hk ((ku_n (by omega)).trans t0) hp hw hpj hpi hq (by omega) (first := false)) rfl rfl ku_s rfl rfl (by omega) (by omega) (by omega) (Nat.le_of_ble_eq_true rfl) ?_
                    refine ko_iload (i := 7) dX5_findRests_103 rfl ?_
                    refine ko_icmp_gt (tgt := 112) dX5_findRests_105 (by decide) (fun c_105 => ?_) (fun c_105 => ?_)
                    · refine ko_iconst (v := 0) dX5_findRests_112 (by decide) ?_
                      refine ko_istore (i := 8) (lv' := [(0, _), (1, _), (2, _), (3, _), (4, _), (5, _), (6, _), (7, _), (8, _), (9, _)]) dX5_findRests_113 (by decide) rfl rfl rfl ?_
                      refine ko_inc1 (i := 9) (lv' := [(0, _), (1, _), (2, _), (3, _), (4, _), (5, _), (6, _), (7, _), (8, _), (9, _)]) dX5_findRests_115 rfl (by decide) rfl rfl rfl ?_
                      refine ko_goto (tgt := 63) dX5_findRests_118 (by decide) ?_
                      exact ko_lv (by simp [fsB, kb, nI_succ, c_66, c_71, c_88, c_105]) (ihk (k9 + 1) (by omega))
                    · refine ko_iconst (v := 1) dX5_findRests_108 (by decide) ?_
                      refine ko_goto (tgt := 113) dX5_findRests_109 (by decide) ?_
                      refine ko_istore (i := 8) (lv' := [(0, _), (1, _), (2, _), (3, _), (4, _), (5, _), (6, _), (7, _), (8, _), (9, _)]) dX5_findRests_113 (by decide) rfl rfl rfl ?_
                      refine ko_inc1 (i := 9) (lv' := [(0, _), (1, _), (2, _), (3, _), (4, _), (5, _), (6, _), (7, _), (8, _), (9, _)]) dX5_findRests_115 rfl (by decide) rfl rfl rfl ?_
                      refine ko_goto (tgt := 63) dX5_findRests_118 (by decide) ?_
                      exact ko_lv (by simp [fsB, kb, nI_succ, c_66, c_71, c_88, c_105]) (ihk (k9 + 1) (by omega))
          refine ko_iload (i := 5) dX5_findRests_23 rfl ?_
          refine ko_iconst (v := 4) dX5_findRests_25 (by decide) ?_
          refine ko_icmp_ge (tgt := 177) dX5_findRests_26 (by decide) (fun c_26 => ?_) (fun c_26 => ?_)
          · exact absurd (show nI 4 ≤ nI b from c_26) (nI_ge (by omega) (by omega))
          · refine ko_aload_n (i := 0) dX5_findRests_29 rfl rfl ?_
            refine ko_iload_n (i := 1) dX5_findRests_30 rfl rfl ?_
            refine ko_iload_n (i := 2) dX5_findRests_31 rfl rfl ?_
            refine ko_iload_n (i := 3) dX5_findRests_32 rfl rfl ?_
            refine ko_iload (i := 4) dX5_findRests_33 rfl ?_
            refine ko_iload (i := 5) dX5_findRests_35 rfl ?_
            refine ko_iconst (v := 1) dX5_findRests_37 (by decide) ?_
            refine ko_callVr lk_X5_176 dX5_findRests_38 (fn_gainOf (d := d - 1) ku_s ((ku_n (by omega)).trans k0) hk ((ku_n (by omega)).trans t0) hp hw hpi hpj hq (by omega) (first := true)) rfl rfl ku_s rfl rfl (by omega) (by omega) (by omega) (Nat.le_of_ble_eq_true rfl) ?_
            refine ko_istore (i := 6) (lv' := [(0, _), (1, _), (2, _), (3, _), (4, _), (5, _), (6, _)]) dX5_findRests_41 (by decide) rfl rfl rfl ?_
            refine ko_aload_n (i := 0) dX5_findRests_43 rfl rfl ?_
            refine ko_iload_n (i := 2) dX5_findRests_44 rfl rfl ?_
            refine ko_iload_n (i := 1) dX5_findRests_45 rfl rfl ?_
            refine ko_iload_n (i := 3) dX5_findRests_46 rfl rfl ?_
            refine ko_iload (i := 5) dX5_findRests_47 rfl ?_
            refine ko_iload (i := 4) dX5_findRests_49 rfl ?_
            refine ko_iconst (v := 0) dX5_findRests_51 (by decide) ?_
            refine ko_callVr lk_X5_176 dX5_findRests_52 (fn_gainOf (d := d - 1) ku_s ((ku_n (by omega)).trans k0) hk ((ku_n (by omega)).trans t0) hp hw hpj hpi hq (by omega) (first := false)) rfl rfl ku_s rfl rfl (by omega) (by omega) (by omega) (Nat.le_of_ble_eq_true rfl) ?_
            refine ko_istore (i := 7) (lv' := [(0, _), (1, _), (2, _), (3, _), (4, _), (5, _), (6, _), (7, _)]) dX5_findRests_55 (by decide) rfl rfl rfl ?_
            refine ko_iconst (v := 1) dX5_findRests_57 (by decide) ?_
            refine ko_istore (i := 8) (lv' := [(0, _), (1, _), (2, _), (3, _), (4, _), (5, _), (6, _), (7, _), (8, _)]) dX5_findRests_58 (by decide) rfl rfl rfl ?_
            refine ko_iconst (v := 0) dX5_findRests_60 (by decide) ?_
            refine ko_istore (i := 9) (lv' := [(0, _), (1, _), (2, _), (3, _), (4, _), (5, _), (6, _), (7, _), (8, _), (9, _)]) dX5_findRests_61 (by decide) rfl rfl rfl ?_
            exact LK 4 0 rfl
      refine ko_iload (i := 4) dX5_findRests_14 rfl ?_
      refine ko_iconst (v := 4) dX5_findRests_16 (by decide) ?_
      refine ko_icmp_ge (tgt := 183) dX5_findRests_17 (by decide) (fun c_17 => ?_) (fun c_17 => ?_)
      · exact absurd (show nI 4 ≤ nI a from c_17) (nI_ge (by omega) (by omega))
      · refine ko_iconst (v := 0) dX5_findRests_20 (by decide) ?_
        refine ko_istore (i := 5) (lv' := [(0, _), (1, _), (2, _), (3, _), (4, _), (5, _)]) dX5_findRests_21 (by decide) rfl rfl rfl ?_
        exact LB 4 0 rfl
  refine ko_aload_n (i := 0) dX5_findRests_0 rfl rfl ?_
  refine ko_iconst (v := 0) dX5_findRests_1 (by decide) ?_
  refine ko_put fl_X5_170 dX5_findRests_2 o0 rfl rfl (Nat.le_of_ble_eq_true rfl) ?_
  refine ko_aload_n (i := 0) dX5_findRests_5 rfl rfl ?_
  refine ko_bipush (v := (-9)) dX5_findRests_6 (by decide) ?_
  refine ko_put fl_X5_173 dX5_findRests_8 ku_s rfl rfl (Nat.le_of_ble_eq_true rfl) ?_
  refine ko_h (ku_ku _ _ _ _) ?_
  refine ko_h (h' := (kx_up h m (kmo m (mTs o, mPl o, mN o, mRp o, mAc o, mSd o, mSm o, mSo o, mSw o, (feI (mayI u (nI i) (nI q)) (mayI u (nI j) (nI q)) 0).1, (feI (mayI u (nI i) (nI q)) (mayI u (nI j) (nI q)) 0).2)))) rfl ?_
  refine ko_iconst (v := 0) dX5_findRests_11 (by decide) ?_
  refine ko_istore (i := 4) (lv' := [(0, _), (1, _), (2, _), (3, _), (4, _)]) dX5_findRests_12 (by decide) rfl rfl rfl ?_
  exact LA 4 0 rfl
def rsO (u : PU) (p q r w : Int32) : Bool := rsB u p q r && (rsC p q r w && hbI (pOp u) r)
theorem rsC_in (p q r w : Int32) : rsC p q r w = (!decide (p = q) && (!decide (p = r) && (!decide (q = r) && inI w 0 1))) := by
  unfold rsC
  rw [inR]
set_option maxRecDepth 20000 in
theorem y_rests0 {G : kx_G} {d N m : Nat} {h : kx_H} {T : Nat → Int32} {L : Nat} {u : PU} {n C : Nat} {Ac K : Nat → PU} {kf : Nat → Int32} {sd : Int64} {p q r w : Int32} (ok : rsO u p q r w = false) (hM : kM h m T L u n C Ac K kf sd) (hw : WF u n) (hd : 20 ≤ d) : kx_Fn mX5_rests d 0 0 G [.ref m, .int p, .int q, .int r, .int w] N h (some (.int (rsI u p q r w)), N, h) := by
  refine kx_Fn_of rfl (Nat.le_of_ble_eq_true rfl) rfl ?_ (kx_self)
  obtain ⟨o, Kf, f, tr, rp, rk, bk, kp, zk, va, hi9, r1, r2, r3, r4, r5, r6, r7, r8, r9, rC, rL⟩ := id hM
  obtain ⟨m0, m1, m2, m3, m4, m5, m6, m7, m8, m9, m10⟩ := id hi9
  have hn5 := hw.2.1
  obtain ⟨p1, p2, p3, p4, p5, p6, p7⟩ := id r6
  refine ko_aload_n (i := 0) dX5_rests_0 rfl rfl ?_
  refine ko_iconst (v := 0) dX5_rests_1 (by decide) ?_
  refine ko_put fl_X5_41 dX5_rests_2 m0 rfl rfl (Nat.le_of_ble_eq_true rfl) ?_
  refine ko_h (ku_same m0) ?_
  refine ko_aload_n (i := 0) dX5_rests_5 rfl rfl ?_
  refine ko_iload_n (i := 1) dX5_rests_6 rfl rfl ?_
  refine ko_callVr lk_X5_108 dX5_rests_7 (fn_noPerson (d := d - 1) m0 r2 hn5 (by omega)) rfl rfl m0 rfl rfl (by omega) (by omega) (by omega) (Nat.le_of_ble_eq_true rfl) ?_
  first | refine ko_ifb_ne (tgt := 29) dX5_rests_10 (by decide) (fun c_10 => ?_) (fun c_10 => ?_) | refine ko_if_ne (tgt := 29) dX5_rests_10 (by decide) (fun c_10 => ?_) (fun c_10 => ?_)
  · have h_10 : hasI (nI n) p = false := by
      rw [Bool.not_eq_true'] at c_10
      exact c_10
    refine ko_iconst (v := (-1)) dX5_rests_29 (by decide) ?_
    refine ko_iret dX5_rests_30 rfl (Nat.le_of_ble_eq_true rfl) (Nat.le_of_ble_eq_true rfl) ?_
    first
      | (unfold rsI rsB; rw [hw.1, h_10]; rfl)
      | (unfold rsI rsB; rw [hw.1, h_10, h_18]; rfl)
      | (unfold rsI rsB; rw [hw.1, h_10, h_18, h_26]; rfl)
  · have h_10 : hasI (nI n) p = true := by
      rw [Bool.not_eq_false'] at c_10
      exact c_10
    refine ko_aload_n (i := 0) dX5_rests_13 rfl rfl ?_
    refine ko_iload_n (i := 2) dX5_rests_14 rfl rfl ?_
    refine ko_callVr lk_X5_108 dX5_rests_15 (fn_noPerson (d := d - 1) m0 r2 hn5 (by omega)) rfl rfl m0 rfl rfl (by omega) (by omega) (by omega) (Nat.le_of_ble_eq_true rfl) ?_
    first | refine ko_ifb_ne (tgt := 29) dX5_rests_18 (by decide) (fun c_18 => ?_) (fun c_18 => ?_) | refine ko_if_ne (tgt := 29) dX5_rests_18 (by decide) (fun c_18 => ?_) (fun c_18 => ?_)
    · have h_18 : hasI (nI n) q = false := by
        rw [Bool.not_eq_true'] at c_18
        exact c_18
      refine ko_iconst (v := (-1)) dX5_rests_29 (by decide) ?_
      refine ko_iret dX5_rests_30 rfl (Nat.le_of_ble_eq_true rfl) (Nat.le_of_ble_eq_true rfl) ?_
      first
        | (unfold rsI rsB; rw [hw.1, h_10]; rfl)
        | (unfold rsI rsB; rw [hw.1, h_10, h_18]; rfl)
        | (unfold rsI rsB; rw [hw.1, h_10, h_18, h_26]; rfl)
    · have h_18 : hasI (nI n) q = true := by
        rw [Bool.not_eq_false'] at c_18
        exact c_18
      refine ko_aload_n (i := 0) dX5_rests_21 rfl rfl ?_
      refine ko_iload_n (i := 3) dX5_rests_22 rfl rfl ?_
      refine ko_callVr lk_X5_108 dX5_rests_23 (fn_noPerson (d := d - 1) m0 r2 hn5 (by omega)) rfl rfl m0 rfl rfl (by omega) (by omega) (by omega) (Nat.le_of_ble_eq_true rfl) ?_
      first | refine ko_ifb_eq (tgt := 31) dX5_rests_26 (by decide) (fun c_26 => ?_) (fun c_26 => ?_) | refine ko_if_eq (tgt := 31) dX5_rests_26 (by decide) (fun c_26 => ?_) (fun c_26 => ?_)
      · have h_26 : hasI (nI n) r = true := by
          rw [Bool.not_eq_false'] at c_26
          exact c_26
        obtain ⟨i, hi, rfl⟩ := has_of hn5 h_10
        obtain ⟨j, hj, rfl⟩ := has_of hn5 h_18
        obtain ⟨q9, hq9, rfl⟩ := has_of hn5 h_26
        have hB : rsB u (nI i) (nI j) (nI q9) = true := by
          unfold rsB
          rw [hasW hw hi, hasW hw hj, hasW hw hq9]
          rfl
        refine ko_iload_n (i := 1) dX5_rests_31 rfl rfl ?_
        refine ko_iload_n (i := 2) dX5_rests_32 rfl rfl ?_
        refine ko_icmp_eq (tgt := 57) dX5_rests_33 (by decide) (fun c_33 => ?_) (fun c_33 => ?_)
        · refine ko_bipush (v := (-2)) dX5_rests_57 (by decide) ?_
          refine ko_iret dX5_rests_59 rfl (Nat.le_of_ble_eq_true rfl) (Nat.le_of_ble_eq_true rfl) ?_
          have hC : rsC (nI i) (nI j) (nI q9) w = false := by
            rw [rsC_in]
            simp [c_10, c_18, c_26, c_33]
          unfold rsI
          rw [hB, hC]
          rfl
        · refine ko_iload_n (i := 1) dX5_rests_36 rfl rfl ?_
          refine ko_iload_n (i := 3) dX5_rests_37 rfl rfl ?_
          refine ko_icmp_eq (tgt := 57) dX5_rests_38 (by decide) (fun c_38 => ?_) (fun c_38 => ?_)
          · refine ko_bipush (v := (-2)) dX5_rests_57 (by decide) ?_
            refine ko_iret dX5_rests_59 rfl (Nat.le_of_ble_eq_true rfl) (Nat.le_of_ble_eq_true rfl) ?_
            have hC : rsC (nI i) (nI j) (nI q9) w = false := by
              rw [rsC_in]
              simp [c_10, c_18, c_26, c_33, c_38]
            unfold rsI
            rw [hB, hC]
            rfl
          · refine ko_iload_n (i := 2) dX5_rests_41 rfl rfl ?_
            refine ko_iload_n (i := 3) dX5_rests_42 rfl rfl ?_
            refine ko_icmp_eq (tgt := 57) dX5_rests_43 (by decide) (fun c_43 => ?_) (fun c_43 => ?_)
            · refine ko_bipush (v := (-2)) dX5_rests_57 (by decide) ?_
              refine ko_iret dX5_rests_59 rfl (Nat.le_of_ble_eq_true rfl) (Nat.le_of_ble_eq_true rfl) ?_
              have hC : rsC (nI i) (nI j) (nI q9) w = false := by
                rw [rsC_in]
                simp [c_10, c_18, c_26, c_33, c_38, c_43]
              unfold rsI
              rw [hB, hC]
              rfl
            · refine ko_iload (i := 4) dX5_rests_46 rfl ?_
              refine ko_i2l dX5_rests_48 ?_
              refine ko_lconst (v := 0) dX5_rests_49 (by decide) ?_
              refine ko_lconst (v := 1) dX5_rests_50 (by decide) ?_
              refine ko_callSr lk_X5_48 dX5_rests_51 (fn_in (d := d - 1) (v := w) (a := 0) (b := 1)) rfl rfl (by omega) (by omega) (by omega) (Nat.le_of_ble_eq_true rfl) ?_
              first | refine ko_ifb_ne (tgt := 60) dX5_rests_54 (by decide) (fun c_54 => ?_) (fun c_54 => ?_) | refine ko_if_ne (tgt := 60) dX5_rests_54 (by decide) (fun c_54 => ?_) (fun c_54 => ?_)
              · refine ko_aload_n (i := 0) dX5_rests_60 rfl rfl ?_
                refine ko_get fl_X5_22 dX5_rests_61 m0 rfl ?_
                refine ko_bipush (v := 15) dX5_rests_64 (by decide) ?_
                refine ko_iald dX5_rests_66 m5 (in15 (i := 15) (by omega)) ?_
                refine ko_st (st' := [.int (f 15)]) rfl ?_
                rw [p4]
                refine ko_iload_n (i := 3) dX5_rests_67 rfl rfl ?_
                refine ko_callSr lk_X5_63 dX5_rests_68 (fn_mhas (by omega)) rfl rfl (by omega) (by omega) (by omega) (Nat.le_of_ble_eq_true rfl) ?_
                first | refine ko_ifb_ne (tgt := 77) dX5_rests_71 (by decide) (fun c_71 => ?_) (fun c_71 => ?_) | refine ko_if_ne (tgt := 77) dX5_rests_71 (by decide) (fun c_71 => ?_) (fun c_71 => ?_)
                · exact absurd ok (by unfold rsO; rw [hB, rsC_in, c_71, c_54, decide_eq_false c_33, decide_eq_false c_38, decide_eq_false c_43]; decide)
                · refine ko_bipush (v := (-3)) dX5_rests_74 (by decide) ?_
                  refine ko_iret dX5_rests_76 rfl (Nat.le_of_ble_eq_true rfl) (Nat.le_of_ble_eq_true rfl) ?_
                  have hC : rsC (nI i) (nI j) (nI q9) w = true := by
                    rw [rsC_in]
                    simp [c_10, c_18, c_26, c_33, c_38, c_43, c_54, c_71]
                  unfold rsI
                  rw [hB, hC, c_71]
                  rfl
              · refine ko_bipush (v := (-2)) dX5_rests_57 (by decide) ?_
                refine ko_iret dX5_rests_59 rfl (Nat.le_of_ble_eq_true rfl) (Nat.le_of_ble_eq_true rfl) ?_
                have hC : rsC (nI i) (nI j) (nI q9) w = false := by
                  rw [rsC_in]
                  simp [c_10, c_18, c_26, c_33, c_38, c_43, c_54]
                unfold rsI
                rw [hB, hC]
                rfl
      · have h_26 : hasI (nI n) r = false := by
          rw [Bool.not_eq_true'] at c_26
          exact c_26
        refine ko_iconst (v := (-1)) dX5_rests_29 (by decide) ?_
        refine ko_iret dX5_rests_30 rfl (Nat.le_of_ble_eq_true rfl) (Nat.le_of_ble_eq_true rfl) ?_
        first
          | (unfold rsI rsB; rw [hw.1, h_10]; rfl)
          | (unfold rsI rsB; rw [hw.1, h_10, h_18]; rfl)
          | (unfold rsI rsB; rw [hw.1, h_10, h_18, h_26]; rfl)
set_option maxRecDepth 20000 in
theorem y_rests1 {G : kx_G} {d N m : Nat} {h : kx_H} {T : Nat → Int32} {L : Nat} {u : PU} {n C : Nat} {Ac K : Nat → PU} {kf : Nat → Int32} {sd : Int64} {i j q9 : Nat} {w : Int32} (hi : i < n) (hj : j < n) (hq9 : q9 < n) (ok : rsO u (nI i) (nI j) (nI q9) w = true)  (hM : kM h m T L u n C Ac K kf sd) (hw : WF u n) (hd : 20 ≤ d) : ∃ g, kx_Fn mX5_rests d 0 0 G [.ref m, .int (nI i), .int (nI j), .int (nI q9), .int w] N h (some (.int (rsI u (nI i) (nI j) (nI q9) w)), N, g) ∧ kM g m T L u n C Ac K kf sd ∧ kFr h g m 10 := by
  obtain ⟨o, Kf, f, tr, rp, rk, bk, kp, zk, va, hi9, r1, r2, r3, r4, r5, r6, r7, r8, r9, rC, rL⟩ := id hM
  obtain ⟨m0, m1, m2, m3, m4, m5, m6, m7, m8, m9, m10⟩ := id hi9
  have hn5 := hw.2.1
  obtain ⟨p1, p2, p3, p4, p5, p6, p7⟩ := id r6
  have o9 : rsO u (nI i) (nI j) (nI q9) w = true := ok
  have hI : rsI u (nI i) (nI j) (nI q9) w = if ¬ w = 0 then (reI (mayI u (nI i) (nI q9)) (mayI u (nI j) (nI q9)) 4).2 else (reI (mayI u (nI i) (nI q9)) (mayI u (nI j) (nI q9)) 4).1 := by
    unfold rsO at o9
    rw [Bool.and_eq_true, Bool.and_eq_true] at o9
    unfold rsI
    rw [o9.1, o9.2.1, o9.2.2, if_neg (by decide), if_neg (by decide), if_neg (by decide)]
  unfold rsO at ok
  rw [rsC_in, Bool.and_eq_true, Bool.and_eq_true, Bool.and_eq_true, Bool.and_eq_true, Bool.and_eq_true, Bool.not_eq_true', Bool.not_eq_true', Bool.not_eq_true', decide_eq_false_iff_not, decide_eq_false_iff_not, decide_eq_false_iff_not] at ok
  obtain ⟨-, ⟨e1, e2, e3, e4⟩, e5⟩ := ok
  have fr : kFr h (kx_up h m (kmo m (mTs o, mPl o, mN o, mRp o, mAc o, mSd o, mSm o, mSo o, mSw o, (feI (mayI u (nI i) (nI q9)) (mayI u (nI j) (nI q9)) 4).1, (feI (mayI u (nI i) (nI q9)) (mayI u (nI j) (nI q9)) 4).2))) m 10 := kFr.up (by omega)
  refine ⟨(kx_up h m (kmo m (mTs o, mPl o, mN o, mRp o, mAc o, mSd o, mSm o, mSo o, mSw o, (feI (mayI u (nI i) (nI q9)) (mayI u (nI j) (nI q9)) 4).1, (feI (mayI u (nI i) (nI q9)) (mayI u (nI j) (nI q9)) 4).2))), kx_Fn_of rfl (Nat.le_of_ble_eq_true rfl) rfl ?_ (kM_dom hM fr), ⟨_, Kf, f, tr, rp, rk, bk, kp, zk, va, kMi_o hi9 _, r1, r2, r3, r4, r5, r6, r7, r8, r9, rC, rL⟩, fr⟩
  · refine ko_aload_n (i := 0) dX5_rests_0 rfl rfl ?_
    refine ko_iconst (v := 0) dX5_rests_1 (by decide) ?_
    refine ko_put fl_X5_41 dX5_rests_2 m0 rfl rfl (Nat.le_of_ble_eq_true rfl) ?_
    refine ko_h (ku_same m0) ?_
    refine ko_aload_n (i := 0) dX5_rests_5 rfl rfl ?_
    refine ko_iload_n (i := 1) dX5_rests_6 rfl rfl ?_
    refine ko_callVr lk_X5_108 dX5_rests_7 (fn_noPerson (d := d - 1) m0 r2 hn5 (by omega)) rfl rfl m0 rfl rfl (by omega) (by omega) (by omega) (Nat.le_of_ble_eq_true rfl) ?_
    first | refine ko_ifb_ne (tgt := 29) dX5_rests_10 (by decide) (fun c_10 => ?_) (fun c_10 => ?_) | refine ko_if_ne (tgt := 29) dX5_rests_10 (by decide) (fun c_10 => ?_) (fun c_10 => ?_)
    · exact absurd c_10 (by rw [hasT hn5 hi]; decide)
    · refine ko_aload_n (i := 0) dX5_rests_13 rfl rfl ?_
      refine ko_iload_n (i := 2) dX5_rests_14 rfl rfl ?_
      refine ko_callVr lk_X5_108 dX5_rests_15 (fn_noPerson (d := d - 1) m0 r2 hn5 (by omega)) rfl rfl m0 rfl rfl (by omega) (by omega) (by omega) (Nat.le_of_ble_eq_true rfl) ?_
      first | refine ko_ifb_ne (tgt := 29) dX5_rests_18 (by decide) (fun c_18 => ?_) (fun c_18 => ?_) | refine ko_if_ne (tgt := 29) dX5_rests_18 (by decide) (fun c_18 => ?_) (fun c_18 => ?_)
      · exact absurd c_18 (by rw [hasT hn5 hj]; decide)
      · refine ko_aload_n (i := 0) dX5_rests_21 rfl rfl ?_
        refine ko_iload_n (i := 3) dX5_rests_22 rfl rfl ?_
        refine ko_callVr lk_X5_108 dX5_rests_23 (fn_noPerson (d := d - 1) m0 r2 hn5 (by omega)) rfl rfl m0 rfl rfl (by omega) (by omega) (by omega) (Nat.le_of_ble_eq_true rfl) ?_
        first | refine ko_ifb_eq (tgt := 31) dX5_rests_26 (by decide) (fun c_26 => ?_) (fun c_26 => ?_) | refine ko_if_eq (tgt := 31) dX5_rests_26 (by decide) (fun c_26 => ?_) (fun c_26 => ?_)
        · refine ko_iload_n (i := 1) dX5_rests_31 rfl rfl ?_
          refine ko_iload_n (i := 2) dX5_rests_32 rfl rfl ?_
          refine ko_icmp_eq (tgt := 57) dX5_rests_33 (by decide) (fun c_33 => ?_) (fun c_33 => ?_)
          · exact absurd c_33 e1
          · refine ko_iload_n (i := 1) dX5_rests_36 rfl rfl ?_
            refine ko_iload_n (i := 3) dX5_rests_37 rfl rfl ?_
            refine ko_icmp_eq (tgt := 57) dX5_rests_38 (by decide) (fun c_38 => ?_) (fun c_38 => ?_)
            · exact absurd c_38 e2
            · refine ko_iload_n (i := 2) dX5_rests_41 rfl rfl ?_
              refine ko_iload_n (i := 3) dX5_rests_42 rfl rfl ?_
              refine ko_icmp_eq (tgt := 57) dX5_rests_43 (by decide) (fun c_43 => ?_) (fun c_43 => ?_)
              · exact absurd c_43 e3
              · refine ko_iload (i := 4) dX5_rests_46 rfl ?_
                refine ko_i2l dX5_rests_48 ?_
                refine ko_lconst (v := 0) dX5_rests_49 (by decide) ?_
                refine ko_lconst (v := 1) dX5_rests_50 (by decide) ?_
                refine ko_callSr lk_X5_48 dX5_rests_51 (fn_in (d := d - 1) (v := w) (a := 0) (b := 1)) rfl rfl (by omega) (by omega) (by omega) (Nat.le_of_ble_eq_true rfl) ?_
                first | refine ko_ifb_ne (tgt := 60) dX5_rests_54 (by decide) (fun c_54 => ?_) (fun c_54 => ?_) | refine ko_if_ne (tgt := 60) dX5_rests_54 (by decide) (fun c_54 => ?_) (fun c_54 => ?_)
                · refine ko_aload_n (i := 0) dX5_rests_60 rfl rfl ?_
                  refine ko_get fl_X5_22 dX5_rests_61 m0 rfl ?_
                  refine ko_bipush (v := 15) dX5_rests_64 (by decide) ?_
                  refine ko_iald dX5_rests_66 m5 (in15 (i := 15) (by omega)) ?_
                  refine ko_st (st' := [.int (f 15)]) rfl ?_
                  rw [p4]
                  refine ko_iload_n (i := 3) dX5_rests_67 rfl rfl ?_
                  refine ko_callSr lk_X5_63 dX5_rests_68 (fn_mhas (by omega)) rfl rfl (by omega) (by omega) (by omega) (Nat.le_of_ble_eq_true rfl) ?_
                  first | refine ko_ifb_ne (tgt := 77) dX5_rests_71 (by decide) (fun c_71 => ?_) (fun c_71 => ?_) | refine ko_if_ne (tgt := 77) dX5_rests_71 (by decide) (fun c_71 => ?_) (fun c_71 => ?_)
                  · refine ko_aload_n (i := 0) dX5_rests_77 rfl rfl ?_
                    refine ko_iload_n (i := 1) dX5_rests_78 rfl rfl ?_
                    refine ko_iload_n (i := 2) dX5_rests_79 rfl rfl ?_
                    refine ko_iload_n (i := 3) dX5_rests_80 rfl rfl ?_
                    refine ko_callVv lk_X5_180 dX5_rests_81 (fn_findRests (d := d - 1) m0 m2 r5 m5 r6 hw hi hj hq9 (by omega)) rfl rfl m0 rfl rfl (by omega) (by omega) (by omega) (Nat.le_of_ble_eq_true rfl) ?_
                    refine ko_iload (i := 4) dX5_rests_84 rfl ?_
                    refine ko_if_ne (tgt := 96) dX5_rests_86 (by decide) (fun c_86 => ?_) (fun c_86 => ?_)
                    · refine ko_aload_n (i := 0) dX5_rests_96 rfl rfl ?_
                      refine ko_get fl_X5_173 dX5_rests_97 ku_s rfl ?_
                      refine ko_iret dX5_rests_100 rfl (Nat.le_of_ble_eq_true rfl) (Nat.le_of_ble_eq_true rfl) ?_
                      rw [hI]
                      first
                        | rw [if_pos (show ¬ w = 0 from c_86), ← fe_eq]
                        | rw [if_neg (show ¬ ¬ w = 0 from fun z => z c_86), ← fe_eq]
                    · refine ko_aload_n (i := 0) dX5_rests_89 rfl rfl ?_
                      refine ko_get fl_X5_170 dX5_rests_90 ku_s rfl ?_
                      refine ko_goto (tgt := 100) dX5_rests_93 (by decide) ?_
                      refine ko_iret dX5_rests_100 rfl (Nat.le_of_ble_eq_true rfl) (Nat.le_of_ble_eq_true rfl) ?_
                      rw [hI]
                      first
                        | rw [if_pos (show ¬ w = 0 from c_86), ← fe_eq]
                        | rw [if_neg (show ¬ ¬ w = 0 from fun z => z c_86), ← fe_eq]
                  · exact absurd c_71 (by rw [e5]; decide)
                · exact absurd c_54 (by rw [e4]; decide)
        · exact absurd c_26 (by rw [hasT hn5 hq9]; decide)
