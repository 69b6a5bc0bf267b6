/-! ===== the reference: weeks, copies, fractions ===== -/
set_option maxRecDepth 20000 in
theorem fn_mgoWeek {G : kx_G} {d N m n : Nat} {h : kx_H} {o : MO} {f : Nat → Int32} {t : Nat} (o0 : h m = some (kmo m o)) (hmn : mN o = nI n) (hm5 : n ≤ 5) (t0 : h t = some (ka 43 f)) : kx_Fn mX5_goWeek d 0 0 G [.ref m, .ref t] N h (none, N, kx_up h t (ka 43 (gwG f n))) := by
  refine kx_Fn_of rfl (Nat.le_of_ble_eq_true rfl) rfl ?_ (ku_dom t0)
  have htm : m ≠ t := fun z => by rw [z, t0] at o0; cases o0
  refine ko_h (ku_same t0).symm ?_
  have LOOP : ∀ (k i : Nat), k + i = n → kx_Ok mX5_goWeek d 0 0 G 0 0 2 [(0, .ref m), (1, .ref t), (2, .int (nI i))] [] N (kx_up h t (ka 43 (gwF f i))) (none, N, kx_up h t (ka 43 (gwG f n))) := by
    intro k
    induction k with
    | zero =>
      intro i hi
      obtain rfl : n = i := by omega
      refine ko_iload_n (i := 2) dX5_goWeek_2 rfl rfl ?_
      refine ko_aload_n (i := 0) dX5_goWeek_3 rfl rfl ?_
      refine ko_get fl_X5_45 dX5_goWeek_4 ((ku_n htm).trans o0) rfl ?_
      refine ko_icmp_ge (tgt := 69) dX5_goWeek_7 (by decide) (fun c_7 => ?_) (fun c_7 => ?_)
      · refine ko_aload_n (i := 1) dX5_goWeek_69 rfl rfl ?_
        refine ko_bipush (v := 42) dX5_goWeek_70 (by decide) ?_
        refine ko_dup2 dX5_goWeek_72 rfl rfl ?_
        refine ko_iald dX5_goWeek_73 ku_s (in15 (i := 42) (by omega)) ?_
        refine ko_iconst (v := 1) dX5_goWeek_74 (by decide) ?_
        refine ko_iadd dX5_goWeek_75 ?_
        refine ko_iast dX5_goWeek_76 ku_s (in15 (i := 42) (by omega)) ?_
        refine ko_h (ku_ku _ _ _ _) ?_
        refine ko_vret dX5_goWeek_77 rfl (Nat.le_of_ble_eq_true rfl) (Nat.le_of_ble_eq_true rfl) ?_
        rfl
      · exact absurd (show mN o ≤ nI n by rw [hmn]; exact nI_le (Nat.le_refl _) (by omega)) c_7
    | succ k ih =>
      intro i hi
      refine ko_iload_n (i := 2) dX5_goWeek_2 rfl rfl ?_
      refine ko_aload_n (i := 0) dX5_goWeek_3 rfl rfl ?_
      refine ko_get fl_X5_45 dX5_goWeek_4 ((ku_n htm).trans o0) rfl ?_
      refine ko_icmp_ge (tgt := 69) dX5_goWeek_7 (by decide) (fun c_7 => ?_) (fun c_7 => ?_)
      · exact absurd (show nI n ≤ nI i from by rw [← hmn]; exact c_7) (nI_ge (by omega) (by omega))
      · refine ko_aload_n (i := 1) dX5_goWeek_10 rfl rfl ?_
        refine ko_iconst (v := 5) dX5_goWeek_11 (by decide) ?_
        refine ko_iload_n (i := 2) dX5_goWeek_12 rfl rfl ?_
        refine ko_iadd dX5_goWeek_13 ?_
        rw [a5]
        refine ko_dup2 dX5_goWeek_14 rfl rfl ?_
        refine ko_iald dX5_goWeek_15 ku_s (in15 (by omega)) ?_
        rw [nI_clamp (by omega)]
        refine ko_aload_n (i := 1) dX5_goWeek_16 rfl rfl ?_
        refine ko_iconst (v := 5) dX5_goWeek_17 (by decide) ?_
        refine ko_iload_n (i := 2) dX5_goWeek_18 rfl rfl ?_
        refine ko_iadd dX5_goWeek_19 ?_
        rw [a5]
        refine ko_iald dX5_goWeek_20 ku_s (in15 (by omega)) ?_
        rw [nI_clamp (by omega)]
        refine ko_bipush (v := 99) dX5_goWeek_21 (by decide) ?_
        refine ko_icmp_ge (tgt := 30) dX5_goWeek_23 (by decide) (fun c_23 => ?_) (fun c_23 => ?_)
        · refine ko_iconst (v := 0) dX5_goWeek_30 (by decide) ?_
          refine ko_iadd dX5_goWeek_31 ?_
          refine ko_iast dX5_goWeek_32 ku_s (in15 (by omega)) ?_
          rw [nI_clamp (by omega)]
          refine ko_h (ku_ku _ _ _ _) ?_
          refine ko_aload_n (i := 1) dX5_goWeek_33 rfl rfl ?_
          refine ko_iconst (v := 0) dX5_goWeek_34 (by decide) ?_
          refine ko_iload_n (i := 2) dX5_goWeek_35 rfl rfl ?_
          refine ko_iadd dX5_goWeek_36 ?_
          rw [a0]
          refine ko_dup2 dX5_goWeek_37 rfl rfl ?_
          refine ko_iald dX5_goWeek_38 ku_s (in15 (by omega)) ?_
          rw [nI_clamp (by omega)]
          refine ko_aload_n (i := 1) dX5_goWeek_39 rfl rfl ?_
          refine ko_iconst (v := 5) dX5_goWeek_40 (by decide) ?_
          refine ko_iload_n (i := 2) dX5_goWeek_41 rfl rfl ?_
          refine ko_iadd dX5_goWeek_42 ?_
          rw [a5]
          refine ko_iald dX5_goWeek_43 ku_s (in15 (by omega)) ?_
          rw [nI_clamp (by omega)]
          refine ko_iconst (v := 3) dX5_goWeek_44 (by decide) ?_
          refine ko_icmp_lt (tgt := 60) dX5_goWeek_45 (by decide) (fun c_45 => ?_) (fun c_45 => ?_)
          · refine ko_iconst (v := 0) dX5_goWeek_60 (by decide) ?_
            refine ko_isub dX5_goWeek_61 ?_
            refine ko_iast dX5_goWeek_62 ku_s (in15 (by omega)) ?_
            rw [nI_clamp (by omega)]
            refine ko_h (ku_ku _ _ _ _) ?_
            refine ko_inc1 (i := 2) (lv' := [(0, _), (1, _), (2, _)]) dX5_goWeek_63 rfl (by decide) rfl rfl rfl ?_
            refine ko_goto (tgt := 2) dX5_goWeek_66 (by decide) ?_
            have ei := ih (i + 1) (by omega)
            refine ko_keep [0, 1, 2] (lv' := [(0, _), (1, _), (2, .int (nI i + 1))]) rfl ?_
            rw [← nI_succ i]
            refine ko_h (congrArg (fun z => kx_up h t (ka 43 z)) ?_) ei
            show _ = upd (upd (gwF f i) (5 + i) (gwA (gwF f i (5 + i)))) i (gwS (gwA (gwF f i (5 + i))) (gwF f i i))
            have q1 : ∀ z, upd (gwF f i) (5 + i) z i = gwF f i i := fun z => pk_un (by omega)
            have q2 : ∀ z, upd (gwF f i) (5 + i) z (5 + i) = z := fun z => pk_us
            simp only [q1, q2] at *
            simp only [gwA, gwS]
            simp only [c_7, c_23, c_45, if_true, if_false]
          · refine ko_aload_n (i := 1) dX5_goWeek_48 rfl rfl ?_
            refine ko_iconst (v := 0) dX5_goWeek_49 (by decide) ?_
            refine ko_iload_n (i := 2) dX5_goWeek_50 rfl rfl ?_
            refine ko_iadd dX5_goWeek_51 ?_
            rw [a0]
            refine ko_iald dX5_goWeek_52 ku_s (in15 (by omega)) ?_
            rw [nI_clamp (by omega)]
            refine ko_if_le (tgt := 60) dX5_goWeek_53 (by decide) (fun c_53 => ?_) (fun c_53 => ?_)
            · refine ko_iconst (v := 0) dX5_goWeek_60 (by decide) ?_
              refine ko_isub dX5_goWeek_61 ?_
              refine ko_iast dX5_goWeek_62 ku_s (in15 (by omega)) ?_
              rw [nI_clamp (by omega)]
              refine ko_h (ku_ku _ _ _ _) ?_
              refine ko_inc1 (i := 2) (lv' := [(0, _), (1, _), (2, _)]) dX5_goWeek_63 rfl (by decide) rfl rfl rfl ?_
              refine ko_goto (tgt := 2) dX5_goWeek_66 (by decide) ?_
              have ei := ih (i + 1) (by omega)
              refine ko_keep [0, 1, 2] (lv' := [(0, _), (1, _), (2, .int (nI i + 1))]) rfl ?_
              rw [← nI_succ i]
              refine ko_h (congrArg (fun z => kx_up h t (ka 43 z)) ?_) ei
              show _ = upd (upd (gwF f i) (5 + i) (gwA (gwF f i (5 + i)))) i (gwS (gwA (gwF f i (5 + i))) (gwF f i i))
              have q1 : ∀ z, upd (gwF f i) (5 + i) z i = gwF f i i := fun z => pk_un (by omega)
              have q2 : ∀ z, upd (gwF f i) (5 + i) z (5 + i) = z := fun z => pk_us
              simp only [q1, q2] at *
              simp only [gwA, gwS]
              simp only [c_7, c_23, c_45, c_53, if_true, if_false]
            · refine ko_iconst (v := 1) dX5_goWeek_56 (by decide) ?_
              refine ko_goto (tgt := 61) dX5_goWeek_57 (by decide) ?_
              refine ko_isub dX5_goWeek_61 ?_
              refine ko_iast dX5_goWeek_62 ku_s (in15 (by omega)) ?_
              rw [nI_clamp (by omega)]
              refine ko_h (ku_ku _ _ _ _) ?_
              refine ko_inc1 (i := 2) (lv' := [(0, _), (1, _), (2, _)]) dX5_goWeek_63 rfl (by decide) rfl rfl rfl ?_
              refine ko_goto (tgt := 2) dX5_goWeek_66 (by decide) ?_
              have ei := ih (i + 1) (by omega)
              refine ko_keep [0, 1, 2] (lv' := [(0, _), (1, _), (2, .int (nI i + 1))]) rfl ?_
              rw [← nI_succ i]
              refine ko_h (congrArg (fun z => kx_up h t (ka 43 z)) ?_) ei
              show _ = upd (upd (gwF f i) (5 + i) (gwA (gwF f i (5 + i)))) i (gwS (gwA (gwF f i (5 + i))) (gwF f i i))
              have q1 : ∀ z, upd (gwF f i) (5 + i) z i = gwF f i i := fun z => pk_un (by omega)
              have q2 : ∀ z, upd (gwF f i) (5 + i) z (5 + i) = z := fun z => pk_us
              simp only [q1, q2] at *
              simp only [gwA, gwS]
              simp only [c_7, c_23, c_45, c_53, if_true, if_false]
        · refine ko_iconst (v := 1) dX5_goWeek_26 (by decide) ?_
          refine ko_goto (tgt := 31) dX5_goWeek_27 (by decide) ?_
          refine ko_iadd dX5_goWeek_31 ?_
          refine ko_iast dX5_goWeek_32 ku_s (in15 (by omega)) ?_
          rw [nI_clamp (by omega)]
          refine ko_h (ku_ku _ _ _ _) ?_
          refine ko_aload_n (i := 1) dX5_goWeek_33 rfl rfl ?_
          refine ko_iconst (v := 0) dX5_goWeek_34 (by decide) ?_
          refine ko_iload_n (i := 2) dX5_goWeek_35 rfl rfl ?_
          refine ko_iadd dX5_goWeek_36 ?_
          rw [a0]
          refine ko_dup2 dX5_goWeek_37 rfl rfl ?_
          refine ko_iald dX5_goWeek_38 ku_s (in15 (by omega)) ?_
          rw [nI_clamp (by omega)]
          refine ko_aload_n (i := 1) dX5_goWeek_39 rfl rfl ?_
          refine ko_iconst (v := 5) dX5_goWeek_40 (by decide) ?_
          refine ko_iload_n (i := 2) dX5_goWeek_41 rfl rfl ?_
          refine ko_iadd dX5_goWeek_42 ?_
          rw [a5]
          refine ko_iald dX5_goWeek_43 ku_s (in15 (by omega)) ?_
          rw [nI_clamp (by omega)]
          refine ko_iconst (v := 3) dX5_goWeek_44 (by decide) ?_
          refine ko_icmp_lt (tgt := 60) dX5_goWeek_45 (by decide) (fun c_45 => ?_) (fun c_45 => ?_)
          · refine ko_iconst (v := 0) dX5_goWeek_60 (by decide) ?_
            refine ko_isub dX5_goWeek_61 ?_
            refine ko_iast dX5_goWeek_62 ku_s (in15 (by omega)) ?_
            rw [nI_clamp (by omega)]
            refine ko_h (ku_ku _ _ _ _) ?_
            refine ko_inc1 (i := 2) (lv' := [(0, _), (1, _), (2, _)]) dX5_goWeek_63 rfl (by decide) rfl rfl rfl ?_
            refine ko_goto (tgt := 2) dX5_goWeek_66 (by decide) ?_
            have ei := ih (i + 1) (by omega)
            refine ko_keep [0, 1, 2] (lv' := [(0, _), (1, _), (2, .int (nI i + 1))]) rfl ?_
            rw [← nI_succ i]
            refine ko_h (congrArg (fun z => kx_up h t (ka 43 z)) ?_) ei
            show _ = upd (upd (gwF f i) (5 + i) (gwA (gwF f i (5 + i)))) i (gwS (gwA (gwF f i (5 + i))) (gwF f i i))
            have q1 : ∀ z, upd (gwF f i) (5 + i) z i = gwF f i i := fun z => pk_un (by omega)
            have q2 : ∀ z, upd (gwF f i) (5 + i) z (5 + i) = z := fun z => pk_us
            simp only [q1, q2] at *
            simp only [gwA, gwS]
            simp only [c_7, c_23, c_45, if_true, if_false]
          · refine ko_aload_n (i := 1) dX5_goWeek_48 rfl rfl ?_
            refine ko_iconst (v := 0) dX5_goWeek_49 (by decide) ?_
            refine ko_iload_n (i := 2) dX5_goWeek_50 rfl rfl ?_
            refine ko_iadd dX5_goWeek_51 ?_
            rw [a0]
            refine ko_iald dX5_goWeek_52 ku_s (in15 (by omega)) ?_
            rw [nI_clamp (by omega)]
            refine ko_if_le (tgt := 60) dX5_goWeek_53 (by decide) (fun c_53 => ?_) (fun c_53 => ?_)
            · refine ko_iconst (v := 0) dX5_goWeek_60 (by decide) ?_
              refine ko_isub dX5_goWeek_61 ?_
              refine ko_iast dX5_goWeek_62 ku_s (in15 (by omega)) ?_
              rw [nI_clamp (by omega)]
              refine ko_h (ku_ku _ _ _ _) ?_
              refine ko_inc1 (i := 2) (lv' := [(0, _), (1, _), (2, _)]) dX5_goWeek_63 rfl (by decide) rfl rfl rfl ?_
              refine ko_goto (tgt := 2) dX5_goWeek_66 (by decide) ?_
              have ei := ih (i + 1) (by omega)
              refine ko_keep [0, 1, 2] (lv' := [(0, _), (1, _), (2, .int (nI i + 1))]) rfl ?_
              rw [← nI_succ i]
              refine ko_h (congrArg (fun z => kx_up h t (ka 43 z)) ?_) ei
              show _ = upd (upd (gwF f i) (5 + i) (gwA (gwF f i (5 + i)))) i (gwS (gwA (gwF f i (5 + i))) (gwF f i i))
              have q1 : ∀ z, upd (gwF f i) (5 + i) z i = gwF f i i := fun z => pk_un (by omega)
              have q2 : ∀ z, upd (gwF f i) (5 + i) z (5 + i) = z := fun z => pk_us
              simp only [q1, q2] at *
              simp only [gwA, gwS]
              simp only [c_7, c_23, c_45, c_53, if_true, if_false]
            · refine ko_iconst (v := 1) dX5_goWeek_56 (by decide) ?_
              refine ko_goto (tgt := 61) dX5_goWeek_57 (by decide) ?_
              refine ko_isub dX5_goWeek_61 ?_
              refine ko_iast dX5_goWeek_62 ku_s (in15 (by omega)) ?_
              rw [nI_clamp (by omega)]
              refine ko_h (ku_ku _ _ _ _) ?_
              refine ko_inc1 (i := 2) (lv' := [(0, _), (1, _), (2, _)]) dX5_goWeek_63 rfl (by decide) rfl rfl rfl ?_
              refine ko_goto (tgt := 2) dX5_goWeek_66 (by decide) ?_
              have ei := ih (i + 1) (by omega)
              refine ko_keep [0, 1, 2] (lv' := [(0, _), (1, _), (2, .int (nI i + 1))]) rfl ?_
              rw [← nI_succ i]
              refine ko_h (congrArg (fun z => kx_up h t (ka 43 z)) ?_) ei
              show _ = upd (upd (gwF f i) (5 + i) (gwA (gwF f i (5 + i)))) i (gwS (gwA (gwF f i (5 + i))) (gwF f i i))
              have q1 : ∀ z, upd (gwF f i) (5 + i) z i = gwF f i i := fun z => pk_un (by omega)
              have q2 : ∀ z, upd (gwF f i) (5 + i) z (5 + i) = z := fun z => pk_us
              simp only [q1, q2] at *
              simp only [gwA, gwS]
              simp only [c_7, c_23, c_45, c_53, if_true, if_false]
  refine ko_iconst (v := 0) dX5_goWeek_0 (by decide) ?_
  refine ko_istore_n (i := 2) (lv' := [(0, _), (1, _), (2, _)]) dX5_goWeek_1 rfl (by decide) rfl rfl rfl ?_
  exact LOOP n 0 (by omega)
def cpF (f g : Nat → Int32) (k : Nat) : Nat → Int32 := fun j => if j < k then f j else g j
theorem cp_0 (f g : Nat → Int32) : cpF f g 0 = g := by
  funext j
  unfold cpF
  rw [if_neg (Nat.not_lt_zero j)]
theorem cp_s (f g : Nat → Int32) (k : Nat) : upd (cpF f g k) k (f k) = cpF f g (k + 1) := by
  funext j
  unfold upd cpF
  by_cases h1 : j = k
  · rw [if_pos h1, if_pos (by omega), h1]
  · rw [if_neg h1]
    by_cases h2 : j < k
    · rw [if_pos h2, if_pos (by omega)]
    · rw [if_neg h2, if_neg (by omega)]
set_option maxRecDepth 20000 in
theorem fn_mbegin {G : kx_G} {d N m : Nat} {h : kx_H} {o : MO} {f g : Nat → Int32} (o0 : h m = some (kmo m o)) (t5 : h (m + 5) = some (ka 43 f)) (t6 : h (m + 6) = some (ka 43 g)) : kx_Fn mX5_begin d 0 0 G [.ref m] N h (none, N, kx_up h (m + 6) (ka 43 f)) := by
  refine kx_Fn_of rfl (Nat.le_of_ble_eq_true rfl) rfl ?_ (ku_dom t6)
  have LOOP : ∀ (k i : Nat), k + i = 43 → kx_Ok mX5_begin d 0 0 G 0 0 2 [(0, .ref m), (1, .int (nI i))] [] N (kx_up h (m + 6) (ka 43 (cpF f g i))) (none, N, kx_up h (m + 6) (ka 43 f)) := by
    intro k
    induction k with
    | zero =>
      intro i hi
      obtain rfl : i = 43 := by omega
      refine ko_iload_n (i := 1) dX5_begin_2 rfl rfl ?_
      refine ko_bipush (v := 43) dX5_begin_3 (by decide) ?_
      refine ko_icmp_ge (tgt := 26) dX5_begin_5 (by decide) (fun c_5 => ?_) (fun c_5 => ?_)
      · refine ko_arr (k := 0) (L := 43) f ku_s (fun j hj => if_pos hj) ?_
        refine ko_h (ku_ku _ _ _ _) ?_
        refine ko_vret dX5_begin_26 rfl (Nat.le_of_ble_eq_true rfl) (Nat.le_of_ble_eq_true rfl) ?_
        rfl
      · exact absurd (show (43 : Int32) ≤ nI 43 by decide) c_5
    | succ k ih =>
      intro i hi
      refine ko_iload_n (i := 1) dX5_begin_2 rfl rfl ?_
      refine ko_bipush (v := 43) dX5_begin_3 (by decide) ?_
      refine ko_icmp_ge (tgt := 26) dX5_begin_5 (by decide) (fun c_5 => ?_) (fun c_5 => ?_)
      · exact absurd (show nI 43 ≤ nI i from c_5) (nI_ge (by omega) (by omega))
      · refine ko_aload_n (i := 0) dX5_begin_8 rfl rfl ?_
        refine ko_get fl_X5_25 dX5_begin_9 ((ku_n (by omega)).trans o0) rfl ?_
        refine ko_iload_n (i := 1) dX5_begin_12 rfl rfl ?_
        refine ko_aload_n (i := 0) dX5_begin_13 rfl rfl ?_
        refine ko_get fl_X5_22 dX5_begin_14 ((ku_n (by omega)).trans o0) rfl ?_
        refine ko_iload_n (i := 1) dX5_begin_17 rfl rfl ?_
        refine ko_iald dX5_begin_18 ((ku_n (by omega)).trans t5) (in15 (by omega)) ?_
        rw [nI_clamp (by omega)]
        refine ko_iast dX5_begin_19 ku_s (in15 (by omega)) ?_
        rw [nI_clamp (by omega)]
        rw [cp_s]
        refine ko_h (ku_ku _ _ _ _) ?_
        refine ko_inc1 (i := 1) (lv' := [(0, _), (1, _)]) dX5_begin_20 rfl (by decide) rfl rfl rfl ?_
        refine ko_goto (tgt := 2) dX5_begin_23 (by decide) ?_
        exact ko_lv (by simp [nI_succ]) (ih (i + 1) (by omega))
  refine ko_iconst (v := 0) dX5_begin_0 (by decide) ?_
  refine ko_istore_n (i := 1) (lv' := [(0, _), (1, _)]) dX5_begin_1 rfl (by decide) rfl rfl rfl ?_
  exact ko_h (by rw [cp_0]; exact (ku_same t6).symm) (LOOP 43 0 rfl)
set_option maxRecDepth 20000 in
theorem fn_mpower {G : kx_G} {d N t : Nat} {h : kx_H} {b : Int32} (ht : t < 2 ^ 31) : kx_Fn mX5_power d 0 0 G [.int b, .int (nI t)] N h (some (.int (poI b t)), N, h) := by
  refine kx_Fn_of rfl (Nat.le_of_ble_eq_true rfl) rfl ?_ kx_self
  have LOOP : ∀ (k i : Nat), k + i = t → kx_Ok mX5_power d 0 0 G 0 0 4 [(0, .int b), (1, .int (nI t)), (2, .int (poI b i)), (3, .int (nI i))] [] N h (some (.int (poI b t)), N, h) := by
    intro k
    induction k with
    | zero =>
      intro i hi
      obtain rfl : t = i := by omega
      refine ko_iload_n (i := 3) dX5_power_4 rfl rfl ?_
      refine ko_iload_n (i := 1) dX5_power_5 rfl rfl ?_
      refine ko_icmp_ge (tgt := 19) dX5_power_6 (by decide) (fun c_6 => ?_) (fun c_6 => ?_)
      · refine ko_iload_n (i := 2) dX5_power_19 rfl rfl ?_
        refine ko_iret dX5_power_20 rfl (Nat.le_of_ble_eq_true rfl) (Nat.le_of_ble_eq_true rfl) ?_
        rfl
      · exact absurd (show nI t ≤ nI t by rw [(rfl : nI t = nI t)]; exact nI_le (Nat.le_refl _) (by omega)) c_6
    | succ k ih =>
      intro i hi
      refine ko_iload_n (i := 3) dX5_power_4 rfl rfl ?_
      refine ko_iload_n (i := 1) dX5_power_5 rfl rfl ?_
      refine ko_icmp_ge (tgt := 19) dX5_power_6 (by decide) (fun c_6 => ?_) (fun c_6 => ?_)
      · exact absurd (show nI t ≤ nI i from by rw [← (rfl : nI t = nI t)]; exact c_6) (nI_ge (by omega) (by omega))
      · refine ko_iload_n (i := 2) dX5_power_9 rfl rfl ?_
        refine ko_iload_n (i := 0) dX5_power_10 rfl rfl ?_
        refine ko_imul dX5_power_11 ?_
        refine ko_istore_n (i := 2) (lv' := [(0, _), (1, _), (2, _), (3, _)]) dX5_power_12 rfl (by decide) rfl rfl rfl ?_
        refine ko_inc1 (i := 3) (lv' := [(0, _), (1, _), (2, _), (3, _)]) dX5_power_13 rfl (by decide) rfl rfl rfl ?_
        refine ko_goto (tgt := 4) dX5_power_16 (by decide) ?_
        exact ko_lv (by simp [poI, nI_succ]) (ih (i + 1) (by omega))
  refine ko_iconst (v := 1) dX5_power_0 (by decide) ?_
  refine ko_istore_n (i := 2) (lv' := [(0, _), (1, _), (2, _)]) dX5_power_1 rfl (by decide) rfl rfl rfl ?_
  refine ko_iconst (v := 0) dX5_power_2 (by decide) ?_
  refine ko_istore_n (i := 3) (lv' := [(0, _), (1, _), (2, _), (3, _)]) dX5_power_3 rfl (by decide) rfl rfl rfl ?_
  exact LOOP t 0 (by omega)
def orI : Nat → Int32
  | 0 => 1
  | i + 1 => orI i * nI (i + 2)
def faN (k : Nat) : Int32 := orI (k - 1)
set_option maxRecDepth 20000 in
theorem fn_orders {G : kx_G} {d N t : Nat} {h : kx_H} (ht : t < 1000) : kx_Fn mX5_orders d 0 0 G [.int (nI t)] N h (some (.int (faN t)), N, h) := by
  refine kx_Fn_of rfl (Nat.le_of_ble_eq_true rfl) rfl ?_ kx_self
  have LOOP : ∀ (k i : Nat), k + i = t - 1 → kx_Ok mX5_orders d 0 0 G 0 0 4 [(0, .int (nI t)), (1, .int (orI i)), (2, .int (nI (i + 2)))] [] N h (some (.int (faN t)), N, h) := by
    intro k
    induction k with
    | zero =>
      intro i hi9
      obtain rfl : i = t - 1 := by omega
      refine ko_iload_n (i := 2) dX5_orders_4 rfl rfl ?_
      refine ko_iload_n (i := 0) dX5_orders_5 rfl rfl ?_
      refine ko_icmp_gt (tgt := 19) dX5_orders_6 (by decide) (fun c_6 => ?_) (fun c_6 => ?_)
      · refine ko_iload_n (i := 1) dX5_orders_19 rfl rfl ?_
        refine ko_iret dX5_orders_20 rfl (Nat.le_of_ble_eq_true rfl) (Nat.le_of_ble_eq_true rfl) ?_
        rfl
      · exact absurd (show nI t < nI (t - 1 + 2) from nI_lt (by omega) (by omega)) c_6
    | succ k ih =>
      intro i hi9
      refine ko_iload_n (i := 2) dX5_orders_4 rfl rfl ?_
      refine ko_iload_n (i := 0) dX5_orders_5 rfl rfl ?_
      refine ko_icmp_gt (tgt := 19) dX5_orders_6 (by decide) (fun c_6 => ?_) (fun c_6 => ?_)
      · exact absurd c_6 (nI_nlt (by omega) (by omega))
      · refine ko_iload_n (i := 1) dX5_orders_9 rfl rfl ?_
        refine ko_iload_n (i := 2) dX5_orders_10 rfl rfl ?_
        refine ko_imul dX5_orders_11 ?_
        refine ko_istore_n (i := 1) (lv' := [(0, _), (1, _), (2, _)]) dX5_orders_12 rfl (by decide) rfl rfl rfl ?_
        refine ko_inc1 (i := 2) (lv' := [(0, _), (1, _), (2, _)]) dX5_orders_13 rfl (by decide) rfl rfl rfl ?_
        refine ko_goto (tgt := 4) dX5_orders_16 (by decide) ?_
        have ei := ih (i + 1) (by omega)
        rw [show nI (i + 1 + 2) = nI (i + 2) + 1 from nI_succ (i + 2)] at ei
        exact ei
  refine ko_iconst (v := 1) dX5_orders_0 (by decide) ?_
  refine ko_istore_n (i := 1) (lv' := [(0, _), (1, _)]) dX5_orders_1 rfl (by decide) rfl rfl rfl ?_
  refine ko_iconst (v := 2) dX5_orders_2 (by decide) ?_
  refine ko_istore_n (i := 2) (lv' := [(0, _), (1, _), (2, _)]) dX5_orders_3 rfl (by decide) rfl rfl rfl ?_
  exact LOOP (t - 1) 0 (by omega)
set_option maxRecDepth 20000 in
theorem fn_divisor {G : kx_G} {d N a b : Nat} {h : kx_H} (ha : a < 2 ^ 31) (hb : b < 2 ^ 31) : kx_Fn mX5_divisor d 0 0 G [.int (nI a), .int (nI b)] N h (some (.int (nI (Nat.gcd b a))), N, h) := by
  refine kx_Fn_of rfl (Nat.le_of_ble_eq_true rfl) rfl ?_ kx_self
  have LOOP : ∀ (k p q : Nat), q < k → p < 2 ^ 31 → q < 2 ^ 31 → kx_Ok mX5_divisor d 0 0 G 0 0 13 [(0, .int (nI a)), (1, .int (nI b)), (2, .int (nI p)), (3, .int (nI q))] [] N h (some (.int (nI (Nat.gcd q p))), N, h) := by
    intro k
    induction k with
    | zero => exact fun p q hq => absurd hq (Nat.not_lt_zero q)
    | succ k ih =>
      intro p q hq hp9 hq9
      refine ko_iload_n (i := 3) dX5_divisor_13 rfl rfl ?_
      refine ko_if_eq (tgt := 30) dX5_divisor_14 (by decide) (fun c_14 => ?_) (fun c_14 => ?_)
      · have hq0 : q = 0 := (nI_eq (b := 0) hq9 (by omega)).mp c_14
        subst hq0
        refine ko_iload_n (i := 2) dX5_divisor_30 rfl rfl ?_
        refine ko_iret dX5_divisor_31 rfl (Nat.le_of_ble_eq_true rfl) (Nat.le_of_ble_eq_true rfl) ?_
        rw [Nat.gcd_zero_left]
      · have hq0 : 0 < q := by
          rcases Nat.eq_zero_or_pos q with z | z
          · subst z; exact absurd rfl c_14
          · exact z
        refine ko_iload_n (i := 2) dX5_divisor_17 rfl rfl ?_
        refine ko_iload_n (i := 3) dX5_divisor_18 rfl rfl ?_
        refine ko_irem dX5_divisor_19 c_14 ?_
        rw [pk_rem hp9 hq0 hq9]
        refine ko_istore (i := 4) (lv' := [(0, _), (1, _), (2, _), (3, _), (4, _)]) dX5_divisor_20 (by decide) rfl rfl rfl ?_
        refine ko_iload_n (i := 3) dX5_divisor_22 rfl rfl ?_
        refine ko_istore_n (i := 2) (lv' := [(0, _), (1, _), (2, _), (3, _), (4, _)]) dX5_divisor_23 rfl (by decide) rfl rfl rfl ?_
        refine ko_iload (i := 4) dX5_divisor_24 rfl ?_
        refine ko_istore_n (i := 3) (lv' := [(0, _), (1, _), (2, _), (3, _), (4, _)]) dX5_divisor_26 rfl (by decide) rfl rfl rfl ?_
        refine ko_goto (tgt := 13) dX5_divisor_27 (by decide) ?_
        refine ko_keep [0, 1, 2, 3] (lv' := [(0, _), (1, _), (2, _), (3, _)]) rfl ?_
        rw [Nat.gcd_rec]
        exact ih q (p % q) (Nat.lt_of_lt_of_le (Nat.mod_lt p hq0) (by omega)) hq9 (Nat.lt_trans (Nat.mod_lt p hq0) hq9)
  refine ko_iload_n (i := 0) dX5_divisor_0 rfl rfl ?_
  refine ko_if_ge (tgt := 9) dX5_divisor_1 (by decide) (fun c_1 => ?_) (fun c_1 => ?_)
  · refine ko_iload_n (i := 0) dX5_divisor_9 rfl rfl ?_
    refine ko_istore_n (i := 2) (lv' := [(0, _), (1, _), (2, _)]) dX5_divisor_10 rfl (by decide) rfl rfl rfl ?_
    refine ko_iload_n (i := 1) dX5_divisor_11 rfl rfl ?_
    refine ko_istore_n (i := 3) (lv' := [(0, _), (1, _), (2, _), (3, _)]) dX5_divisor_12 rfl (by decide) rfl rfl rfl ?_
    exact LOOP (b + 1) a b (by omega) ha hb
  · exact absurd (nI_pos' ha) c_1
set_option maxRecDepth 20000 in
theorem fn_mfraction {G : kx_G} {d N a b : Nat} {h : kx_H} {up : Bool} (ha : a < 2 ^ 31) (hb : b < 2 ^ 31) (hb0 : 0 < b) (hd : 1 ≤ d) : kx_Fn mX5_fraction d 0 0 G [.int (nI a), .int (nI b), .int (kb up)] N h (some (.int ((if up = true then nI a else nI b) / nI (Nat.gcd b a))), N, h) := by
  have hg : ¬ nI (Nat.gcd b a) = 0 := nI_ne0 (Nat.gcd_pos_of_pos_left _ hb0) (Nat.lt_of_le_of_lt (Nat.gcd_le_left _ hb0) hb)
  refine kx_Fn_of rfl (Nat.le_of_ble_eq_true rfl) rfl ?_ kx_self
  refine ko_iload_n (i := 0) dX5_fraction_0 rfl rfl ?_
  refine ko_iload_n (i := 1) dX5_fraction_1 rfl rfl ?_
  refine ko_callSr lk_X5_156 dX5_fraction_2 (fn_divisor (d := d - 1) ha hb) rfl rfl (by omega) (by omega) (by omega) (Nat.le_of_ble_eq_true rfl) ?_
  refine ko_istore_n (i := 3) (lv' := [(0, _), (1, _), (2, _), (3, _)]) dX5_fraction_5 rfl (by decide) rfl rfl rfl ?_
  refine ko_iload_n (i := 2) dX5_fraction_6 rfl rfl ?_
  first | refine ko_ifb_eq (tgt := 16) dX5_fraction_7 (by decide) (fun c_7 => ?_) (fun c_7 => ?_) | refine ko_if_eq (tgt := 16) dX5_fraction_7 (by decide) (fun c_7 => ?_) (fun c_7 => ?_)
  · refine ko_iload_n (i := 1) dX5_fraction_16 rfl rfl ?_
    refine ko_iload_n (i := 3) dX5_fraction_17 rfl rfl ?_
    refine ko_idiv dX5_fraction_18 hg ?_
    refine ko_iret dX5_fraction_19 rfl (Nat.le_of_ble_eq_true rfl) (Nat.le_of_ble_eq_true rfl) ?_
    simp [c_7]
  · refine ko_iload_n (i := 0) dX5_fraction_10 rfl rfl ?_
    refine ko_iload_n (i := 3) dX5_fraction_11 rfl rfl ?_
    refine ko_idiv dX5_fraction_12 hg ?_
    refine ko_goto (tgt := 19) dX5_fraction_13 (by decide) ?_
    refine ko_iret dX5_fraction_19 rfl (Nat.le_of_ble_eq_true rfl) (Nat.le_of_ble_eq_true rfl) ?_
    simp [c_7]
/-- the object's fraction and the reference's are one -/
theorem frN_gcd : ∀ (k c r : Nat), c < 2 ^ 31 → r < 2 ^ 31 → r ≤ c → c * r < 2 ^ k → frN (k + 1) (nI c) (nI r) = nI (Nat.gcd r c)
  | k, c, r, hc, hr, hrc, hk => by
    unfold frN
    by_cases h0 : r = 0
    · subst h0
      rw [if_pos (by decide), Nat.gcd_zero_left]
    · rw [if_neg (nI_nle (by omega) hr), pk_rem hc (by omega) hr, Nat.gcd_rec]
      match k, hk with
      | 0, hk =>
        have : 1 ≤ c * r := Nat.mul_pos (by omega) (by omega)
        omega
      | k + 1, hk =>
        refine frN_gcd k r (c % r) hr (Nat.lt_trans (Nat.mod_lt c (by omega)) hr) (Nat.le_of_lt (Nat.mod_lt c (by omega))) ?_
        have h1 : c % r + r ≤ c := by
          have h2 := Nat.div_add_mod c r
          have h3 : 1 ≤ c / r := Nat.div_pos hrc (by omega)
          have h4 : r * 1 ≤ r * (c / r) := Nat.mul_le_mul_left r h3
          omega
        have h5 : 2 * (c % r) ≤ c := by
          have := Nat.mod_lt c (show 0 < r by omega)
          omega
        have h6 : 2 * (r * (c % r)) ≤ c * r := by
          have := Nat.mul_le_mul_left r h5
          rw [Nat.mul_comm c r]
          calc 2 * (r * (c % r)) = r * (2 * (c % r)) := by rw [← Nat.mul_assoc, Nat.mul_comm 2 r, Nat.mul_assoc]
            _ ≤ r * c := this
        have h7 : 2 ^ (k + 1) = 2 * 2 ^ k := by rw [Nat.pow_succ, Nat.mul_comm]
        omega
theorem frI_eq {a b : Nat} {up : Bool} (ha : a ≤ b) (hb : b < 2 ^ 31) (hb0 : 0 < b) : frI (nI a) (nI b) up = (if up = true then nI a else nI b) / nI (Nat.gcd b a) := by
  have e : frN 64 (nI b) (nI a) = nI (Nat.gcd b a) := by
    rw [frN_gcd 63 b a hb (by omega) ha ?_, Nat.gcd_comm]
    have h1 : b * a ≤ b * b := Nat.mul_le_mul_left b ha
    have h2 : b * b < 2 ^ 31 * 2 ^ 31 := Nat.mul_lt_mul'' hb hb
    omega
  unfold frI
  rw [e, if_neg (nI_nle (Nat.gcd_pos_of_pos_left _ hb0) (Nat.lt_of_le_of_lt (Nat.gcd_le_left _ hb0) hb))]
