/-! ===== both sides are made ===== -/
abbrev xE1 (x : Nat) : va_E := (.inr (4, [.ref (x + 1), .null, .null, .null, .null, .null, .null, .long 0]))
abbrev xE2 (x : Nat) : va_E := (.inr (4, [.ref (x + 1), .ref (x + 9), .null, .null, .null, .null, .null, .long 0]))
abbrev xE3 (x : Nat) : va_E := (.inr (4, [.ref (x + 1), .ref (x + 9), .ref (x + 15), .null, .null, .null, .null, .long 0]))
abbrev xE4 (x : Nat) : va_E := (.inr (4, [.ref (x + 1), .ref (x + 9), .ref (x + 15), .ref (x + 21), .null, .null, .null, .long 0]))
abbrev xE5 (x : Nat) : va_E := (.inr (4, [.ref (x + 1), .ref (x + 9), .ref (x + 15), .ref (x + 21), .ref (x + 107), .null, .null, .long 0]))
abbrev xE6 (x : Nat) : va_E := (.inr (4, [.ref (x + 1), .ref (x + 9), .ref (x + 15), .ref (x + 21), .ref (x + 107), .ref (x + 108), .null, .long 0]))
abbrev xE7 (x : Nat) : va_E := (.inr (4, [.ref (x + 1), .ref (x + 9), .ref (x + 15), .ref (x + 21), .ref (x + 107), .ref (x + 108), .ref (x + 121), .long 0]))
abbrev xL0 : va_E := .inr (1, [.null, .null, .int 0])
abbrev xS0 : va_E := .inr (3, [.int 0, .int 0, .int 0, .int 0])
def iA (h : kx_H) (x : Nat) : kx_H := kx_up (liH (kx_up h (x + 1) klb) (x + 1)) x (xE1 x)
def iB (h : kx_H) (x : Nat) : kx_H := kx_up (kp_put (iA h x) (x + 9) pZ) x (xE2 x)
def iC (h : kx_H) (x : Nat) : kx_H := kx_up (kp_put (iB h x) (x + 15) pZ) x (xE3 x)
def iD (h : kx_H) (x : Nat) : kx_H := kx_up (acH (kx_up (iC h x) (x + 21) kab) (x + 21) 14) x (xE4 x)
def iE (h : kx_H) (x : Nat) : kx_H := kx_up (kx_up (iD h x) (x + 107) (kr 2 (kf2 x 0))) x (xE5 x)
def iF (h : kx_H) (x : Nat) : kx_H := kx_up (kx_up (iE h x) (x + 108) (kz (fun _ => 0))) x (xE6 x)
def iG (h : kx_H) (x : Nat) : kx_H := kx_up (kx_up (xk (iF h x) x 2) (x + 121) xS0) x (xE7 x)
theorem liH_out {h : kx_H} {l q : Nat} (hq : q < l ∨ l + 7 < q) : liH h l q = h q := by
  unfold liH
  rw [ku_n (by omega), kp_put_out (by omega), ku_n (by omega)]
section IX
variable {h : kx_H} {x q : Nat}
theorem iA_o (h0 : q ≠ x) (h1 : q < x + 1 ∨ x + 8 < q) : iA h x q = h q := by
  unfold iA
  rw [ku_n h0, liH_out (by omega), ku_n (by omega)]
theorem iB_o (h0 : q ≠ x) (h1 : q < x + 9 ∨ x + 14 < q) : iB h x q = iA h x q := by
  unfold iB
  rw [ku_n h0, kp_put_out (by omega)]
theorem iC_o (h0 : q ≠ x) (h1 : q < x + 15 ∨ x + 20 < q) : iC h x q = iB h x q := by
  unfold iC
  rw [ku_n h0, kp_put_out (by omega)]
theorem iD_o (h0 : q ≠ x) (h1 : q < x + 21 ∨ x + 106 < q) : iD h x q = iC h x q := by
  unfold iD
  rw [ku_n h0, acH_out _ _ _ _ (by omega), ku_n (by omega)]
theorem iE_o (h0 : q ≠ x) (h1 : q ≠ x + 107) : iE h x q = iD h x q := by
  unfold iE
  rw [ku_n h0, ku_n h1]
theorem iF_o (h0 : q ≠ x) (h1 : q ≠ x + 108) : iF h x q = iE h x q := by
  unfold iF
  rw [ku_n h0, ku_n h1]
theorem iG_o (h0 : q ≠ x) (h1 : q ≠ x + 121) : iG h x q = xk (iF h x) x 2 q := by
  unfold iG
  rw [ku_n h0, ku_n h1]
theorem iF_a : iF h x (x + 107) = some (kr 2 (kf2 x 0)) := by
  rw [iF_o (by omega) (by omega)]
  unfold iE
  rw [ku_n (by omega), ku_s]
theorem iG_F (h0 : q ≠ x) (h1 : q < x + 107) : iG h x q = iF h x q := by rw [iG_o h0 (by omega), xk_out _ _ _ _ (by omega)]
theorem iG_E (h0 : q ≠ x) (h1 : q < x + 107) : iG h x q = iD h x q := by rw [iG_F h0 h1, iF_o h0 (by omega), iE_o h0 (by omega)]
theorem iG_low (h1 : q < x) : iG h x q = h q := by rw [iG_E (by omega) (by omega), iD_o (by omega) (by omega), iC_o (by omega) (by omega), iB_o (by omega) (by omega), iA_o (by omega) (by omega)]
end IX
theorem iG_S (h : kx_H) (x : Nat) : kS (iG h x) x (fun _ => 0) 0 pZ 0 (fun _ => pZ) (fun _ => pZ) (fun _ => 0) 0 := by
  refine ⟨pZ, pZ, 0, fun _ => pZ, (0, 0, 0, 0), kf2 x 2, ⟨ku_s, ?_, ?_, ?_, ?_, ?_, ?_, ?_, ?_, fun i hi => ?_, ?_⟩, fun i hi => if_pos hi, by omega, by omega, fun i hi => absurd hi (Nat.not_lt_zero i), by omega⟩
  · rw [iG_E (by omega) (by omega), iD_o (by omega) (by omega), iC_o (by omega) (by omega), iB_o (by omega) (by omega)]
    unfold iA liH
    rw [ku_n (by omega), ku_s]
    rfl
  · rw [iG_E (by omega) (by omega), iD_o (by omega) (by omega), iC_o (by omega) (by omega), iB_o (by omega) (by omega)]
    unfold iA liH
    rw [ku_n (by omega), ku_n (by omega), kp_put_out (by omega), ku_s]
  · refine kP_of (h := kp_put (kx_up (kx_up h (x + 1) klb) (x + 1 + 1) (kl_a (fun _ => 0))) (x + 1 + 2) pZ) (kp_put_P _ _ _) (fun q g1 g2 => ?_)
    rw [iG_E (by omega) (by omega), iD_o (by omega) (by omega), iC_o (by omega) (by omega), iB_o (by omega) (by omega)]
    unfold iA liH
    rw [ku_n (by omega), ku_n (by omega)]
  · refine kP_of (h := kp_put (iA h x) (x + 9) pZ) (kp_put_P _ _ _) (fun q g1 g2 => ?_)
    rw [iG_E (by omega) (by omega), iD_o (by omega) (by omega), iC_o (by omega) (by omega)]
    unfold iB
    rw [ku_n (by omega)]
  · refine kP_of (h := kp_put (iB h x) (x + 15) pZ) (kp_put_P _ _ _) (fun q g1 g2 => ?_)
    rw [iG_E (by omega) (by omega), iD_o (by omega) (by omega)]
    unfold iC
    rw [ku_n (by omega)]
  · refine kA_of (acH_A (kx_up (iC h x) (x + 21) kab) (x + 21)) (fun q g1 g2 => ?_)
    rw [iG_E (by omega) (by omega)]
    unfold iD
    rw [ku_n (by omega)]
  · rw [iG_o (by omega) (by omega)]
    exact xk_a _ _ iF_a 2
  · rw [iG_o (by omega) (by omega), xk_out _ _ _ _ (by omega)]
    unfold iF
    rw [ku_n (by omega), ku_s]
  · exact kP_of (xk_P (iF h x) x 2 i hi) (fun q g1 g2 => iG_o (by omega) (by omega))
  · unfold iG
    rw [ku_n (by omega), ku_s]
set_option maxRecDepth 20000 in
theorem fn_xInit {G : kx_G} {d x : Nat} {h : kx_H} (e0 : h x = some kxb) (hd : 5 ≤ d) : kx_Fn mX4_init d 121 1102 G [.ref x] (x + 1) h (none, x + 122, iG h x) := by
  refine kx_Fn_of rfl (Nat.le_of_ble_eq_true rfl) rfl ?_ (fun q y hy => by
    rcases Nat.lt_or_ge q x with h1 | h1
    · have hy : iG h x q = some y := hy
      rw [iG_low h1] at hy
      exact kx_self _ _ hy
    · by_cases h2 : q = x
      · subst h2; exact kx_self _ _ e0
      · exact Or.inr (by omega))
  have LOOP : ∀ (k i : Nat), k + i = 2 → kx_Ok mX4_init d 121 1102 G (108 + 6 * i) (990 + 54 * i) 65 [(0, .ref x), (1, .int (nI i))] [] (x + 109 + 6 * i) (xk (iF h x) x i) (none, x + 122, iG h x) := by
    intro k
    induction k with
    | zero =>
      intro i hi
      obtain rfl : i = 2 := by omega
      refine ko_iload_n (i := 1) dX4_init_65 rfl rfl ?_
      refine ko_iconst (v := 2) dX4_init_66 (by decide) ?_
      refine ko_icmp_ge (tgt := 89) dX4_init_67 (by decide) (fun c_67 => ?_) (fun c_67 => ?_)
      · refine ko_aload_n (i := 0) dX4_init_89 rfl rfl ?_
        refine ko_new (fs := [.int 0, .int 0, .int 0, .int 0]) kc_3 wl_X4_41 wn_RX3 wi_RX3 (by decide +kernel) dX4_init_90 (Nat.le_of_ble_eq_true rfl) (Nat.le_of_ble_eq_true rfl) ?_
        refine ko_dup dX4_init_93 rfl ?_
        refine ko_callINv lk_X4_43 rfl dX4_init_94 (fn_sInit (d := d - 1) (by omega)) rfl rfl (by omega) (by omega) (by omega) (Nat.le_of_ble_eq_true rfl) ?_
        refine ko_putF fl_X4_44 rfl rfl dX4_init_97 (by rw [ku_n (by omega), xk_out _ _ _ _ (by omega)]; exact ku_s) rfl rfl (Nat.le_of_ble_eq_true rfl) ?_
        refine ko_h (h' := iG h x) rfl ?_
        refine ko_aload_n (i := 0) dX4_init_100 rfl rfl ?_
        refine ko_lconst (v := 0) dX4_init_101 (by decide) ?_
        refine ko_put fl_X4_48 dX4_init_102 ku_s rfl rfl (Nat.le_of_ble_eq_true rfl) ?_
        refine ko_h (ku_same ku_s) ?_
        refine ko_vret dX4_init_105 rfl (Nat.le_of_ble_eq_true rfl) (Nat.le_of_ble_eq_true rfl) ?_
        rfl
      · exact absurd (show (2 : Int32) ≤ nI 2 by decide) c_67
    | succ k ih =>
      intro i hi
      refine ko_iload_n (i := 1) dX4_init_65 rfl rfl ?_
      refine ko_iconst (v := 2) dX4_init_66 (by decide) ?_
      refine ko_icmp_ge (tgt := 89) dX4_init_67 (by decide) (fun c_67 => ?_) (fun c_67 => ?_)
      · exact absurd (show nI 2 ≤ nI i from c_67) (nI_ge (by omega) (by omega))
      · refine ko_aload_n (i := 0) dX4_init_70 rfl rfl ?_
        refine ko_get fl_X4_33 dX4_init_71 (by rw [xk_out _ _ _ _ (by omega)]; exact ku_s) rfl ?_
        refine ko_iload_n (i := 1) dX4_init_74 rfl rfl ?_
        refine ko_new (fs := [.null, .null, .null, .null, .null, .int 0, .int 0, .int 0, .int 0]) kc_2 wl_X4_16 wn_RX2 wi_RX2 (by decide +kernel) dX4_init_75 (by omega) (by omega) ?_
        refine ko_dup dX4_init_78 rfl ?_
        refine ko_callINv lk_X4_18 rfl dX4_init_79 (fn_pInit (d := d - 1) ku_s (by omega)) rfl rfl (by omega) (by omega) (by omega) (Nat.le_of_ble_eq_true rfl) ?_
        rw [kp_put_up]
        refine ko_aast dX4_init_82 (by rw [kp_put_out (by omega)]; exact xk_a _ _ iF_a _) (kp_put_P _ _ _).1 (vp_in_nI (by omega) (by omega)) ?_
        rw [nI_clamp (by omega), kf2_s]
        refine ko_inc1 (i := 1) (lv' := [(0, _), (1, _)]) dX4_init_83 rfl (by decide) rfl rfl rfl ?_
        refine ko_goto (tgt := 65) dX4_init_86 (by decide) ?_
        refine ko_cs (cs' := 108 + 6 * (i + 1)) (ss' := 990 + 54 * (i + 1)) (N' := x + 109 + 6 * (i + 1)) (by omega) (by omega) (by omega) ?_
        exact ko_lv (by simp [nI_succ]) (ih (i + 1) (by omega))
  refine ko_aload_n (i := 0) dX4_init_0 rfl rfl ?_
  refine ko_objInit wo_X4 dX4_init_1 (by omega) (Nat.le_of_ble_eq_true rfl) ?_
  refine ko_aload_n (i := 0) dX4_init_4 rfl rfl ?_
  refine ko_new (fs := [.null, .null, .int 0]) kc_1 wl_X4_7 wn_RX1 wi_RX1 (by decide +kernel) dX4_init_5 (Nat.le_of_ble_eq_true rfl) (Nat.le_of_ble_eq_true rfl) ?_
  refine ko_dup dX4_init_8 rfl ?_
  refine ko_callINv lk_X4_9 rfl dX4_init_9 (fn_lInit (d := d - 1) ku_s (by omega)) rfl rfl (by omega) (by omega) (by omega) (Nat.le_of_ble_eq_true rfl) ?_
  refine ko_putF fl_X4_10 rfl rfl dX4_init_12 (by rw [liH_out (by omega), ku_n (by omega)]; exact e0) rfl rfl (Nat.le_of_ble_eq_true rfl) ?_
  refine ko_h (h' := iA h x) rfl ?_
  refine ko_aload_n (i := 0) dX4_init_15 rfl rfl ?_
  refine ko_new (fs := [.null, .null, .null, .null, .null, .int 0, .int 0, .int 0, .int 0]) kc_2 wl_X4_16 wn_RX2 wi_RX2 (by decide +kernel) dX4_init_16 (Nat.le_of_ble_eq_true rfl) (Nat.le_of_ble_eq_true rfl) ?_
  refine ko_dup dX4_init_19 rfl ?_
  refine ko_callINv lk_X4_18 rfl dX4_init_20 (fn_pInit (d := d - 1) ku_s (by omega)) rfl rfl (by omega) (by omega) (by omega) (Nat.le_of_ble_eq_true rfl) ?_
  rw [kp_put_up]
  refine ko_putF fl_X4_19 rfl rfl dX4_init_23 (by rw [kp_put_out (by omega)]; exact ku_s) rfl rfl (Nat.le_of_ble_eq_true rfl) ?_
  refine ko_h (h' := iB h x) rfl ?_
  refine ko_aload_n (i := 0) dX4_init_26 rfl rfl ?_
  refine ko_new (fs := [.null, .null, .null, .null, .null, .int 0, .int 0, .int 0, .int 0]) kc_2 wl_X4_16 wn_RX2 wi_RX2 (by decide +kernel) dX4_init_27 (Nat.le_of_ble_eq_true rfl) (Nat.le_of_ble_eq_true rfl) ?_
  refine ko_dup dX4_init_30 rfl ?_
  refine ko_callINv lk_X4_18 rfl dX4_init_31 (fn_pInit (d := d - 1) ku_s (by omega)) rfl rfl (by omega) (by omega) (by omega) (Nat.le_of_ble_eq_true rfl) ?_
  rw [kp_put_up]
  refine ko_putF fl_X4_23 rfl rfl dX4_init_34 (by rw [kp_put_out (by omega)]; exact ku_s) rfl rfl (Nat.le_of_ble_eq_true rfl) ?_
  refine ko_h (h' := iC h x) rfl ?_
  refine ko_aload_n (i := 0) dX4_init_37 rfl rfl ?_
  refine ko_new (fs := [.null, .int 0, .int 0]) kc_0 wl_X4_26 wn_RX0 wi_RX0 (by decide +kernel) dX4_init_38 (Nat.le_of_ble_eq_true rfl) (Nat.le_of_ble_eq_true rfl) ?_
  refine ko_dup dX4_init_41 rfl ?_
  refine ko_callIv lk_X4_28 rfl dX4_init_42 (fn_aInit (d := d - 1) ku_s (by omega)) rfl rfl (by omega) (by omega) (by omega) (Nat.le_of_ble_eq_true rfl) ?_
  refine ko_putF fl_X4_29 rfl rfl dX4_init_45 (by rw [acH_out _ _ _ _ (by omega), ku_n (by omega)]; exact ku_s) rfl rfl (Nat.le_of_ble_eq_true rfl) ?_
  refine ko_h (h' := iD h x) rfl ?_
  refine ko_aload_n (i := 0) dX4_init_48 rfl rfl ?_
  refine ko_iconst (v := 2) dX4_init_49 (by decide) ?_
  refine ko_newq (L := 2) wl_X4_16 dX4_init_50 (by decide) rfl (by decide) (Nat.le_of_ble_eq_true rfl) (Nat.le_of_ble_eq_true rfl) ?_
  refine ko_putF fl_X4_33 rfl rfl dX4_init_53 (by rw [ku_n (by omega)]; exact ku_s) rfl rfl (Nat.le_of_ble_eq_true rfl) ?_
  refine ko_h (h' := iE h x) rfl ?_
  refine ko_aload_n (i := 0) dX4_init_56 rfl rfl ?_
  refine ko_iconst (v := 2) dX4_init_57 (by decide) ?_
  refine ko_newz (L := 2) dX4_init_58 (by decide) rfl (by decide) (Nat.le_of_ble_eq_true rfl) (Nat.le_of_ble_eq_true rfl) wa_boolean ?_
  refine ko_putF fl_X4_37 rfl rfl dX4_init_60 (by rw [ku_n (by omega)]; exact ku_s) rfl rfl (Nat.le_of_ble_eq_true rfl) ?_
  refine ko_h (h' := iF h x) rfl ?_
  refine ko_iconst (v := 0) dX4_init_63 (by decide) ?_
  refine ko_istore_n (i := 1) (lv' := [(0, _), (1, _)]) dX4_init_64 rfl (by decide) rfl rfl rfl ?_
  exact ko_cs rfl rfl rfl (ko_h rfl (LOOP 2 0 rfl))
abbrev mE0 (m : Nat) : va_E := (.inr (5, [.int 0, .null, .int 0, .int 0, .int 0, .null, .int 0, .null, .null, .null, .null, .null, .int 0, .null, .null, .long 0, .int 0, .int 0, .int 0, .null, .int 0, .int 0]))
abbrev mE1 (m : Nat) : va_E := (.inr (5, [.int 0, .ref (m + 1), .int 0, .int 0, .int 0, .null, .int 0, .null, .null, .null, .null, .null, .int 0, .null, .null, .long 0, .int 0, .int 0, .int 0, .null, .int 0, .int 0]))
abbrev mE2 (m : Nat) : va_E := (.inr (5, [.int 0, .ref (m + 1), .int 0, .int 0, .int 0, .ref (m + 2), .int 0, .null, .null, .null, .null, .null, .int 0, .null, .null, .long 0, .int 0, .int 0, .int 0, .null, .int 0, .int 0]))
abbrev mE3 (m : Nat) : va_E := (.inr (5, [.int 0, .ref (m + 1), .int 0, .int 0, .int 0, .ref (m + 2), .int 0, .ref (m + 3), .null, .null, .null, .null, .int 0, .null, .null, .long 0, .int 0, .int 0, .int 0, .null, .int 0, .int 0]))
abbrev mE4 (m : Nat) : va_E := (.inr (5, [.int 0, .ref (m + 1), .int 0, .int 0, .int 0, .ref (m + 2), .int 0, .ref (m + 3), .ref (m + 4), .null, .null, .null, .int 0, .null, .null, .long 0, .int 0, .int 0, .int 0, .null, .int 0, .int 0]))
abbrev mE5 (m : Nat) : va_E := (.inr (5, [.int 0, .ref (m + 1), .int 0, .int 0, .int 0, .ref (m + 2), .int 0, .ref (m + 3), .ref (m + 4), .ref (m + 5), .null, .null, .int 0, .null, .null, .long 0, .int 0, .int 0, .int 0, .null, .int 0, .int 0]))
abbrev mE6 (m : Nat) : va_E := (.inr (5, [.int 0, .ref (m + 1), .int 0, .int 0, .int 0, .ref (m + 2), .int 0, .ref (m + 3), .ref (m + 4), .ref (m + 5), .ref (m + 6), .null, .int 0, .null, .null, .long 0, .int 0, .int 0, .int 0, .null, .int 0, .int 0]))
abbrev mE7 (m : Nat) : va_E := (.inr (5, [.int 0, .ref (m + 1), .int 0, .int 0, .int 0, .ref (m + 2), .int 0, .ref (m + 3), .ref (m + 4), .ref (m + 5), .ref (m + 6), .ref (m + 7), .int 0, .null, .null, .long 0, .int 0, .int 0, .int 0, .null, .int 0, .int 0]))
abbrev mE8 (m : Nat) : va_E := (.inr (5, [.int 0, .ref (m + 1), .int 0, .int 0, .int 0, .ref (m + 2), .int 0, .ref (m + 3), .ref (m + 4), .ref (m + 5), .ref (m + 6), .ref (m + 7), .int 0, .ref (m + 8), .null, .long 0, .int 0, .int 0, .int 0, .null, .int 0, .int 0]))
abbrev mE9 (m : Nat) : va_E := (.inr (5, [.int 0, .ref (m + 1), .int 0, .int 0, .int 0, .ref (m + 2), .int 0, .ref (m + 3), .ref (m + 4), .ref (m + 5), .ref (m + 6), .ref (m + 7), .int 0, .ref (m + 8), .ref (m + 9), .long 0, .int 0, .int 0, .int 0, .null, .int 0, .int 0]))
abbrev mE10 (m : Nat) : va_E := (.inr (5, [.int 0, .ref (m + 1), .int 0, .int 0, .int 0, .ref (m + 2), .int 0, .ref (m + 3), .ref (m + 4), .ref (m + 5), .ref (m + 6), .ref (m + 7), .int 0, .ref (m + 8), .ref (m + 9), .long 0, .int 0, .int 0, .int 0, .ref (m + 10), .int 0, .int 0]))
def mH1 (h : kx_H) (m : Nat) : kx_H := kx_up (kx_up h (m + 1) (ka 48 (fun _ => 0))) m (mE1 m)
theorem mH1_n {h : kx_H} {m q : Nat} (h0 : q ≠ m) (h1 : q ≠ m + 1) : mH1 h m q = h q := (ku_n h0).trans (ku_n h1)
theorem mH1_a {h : kx_H} {m : Nat} : mH1 h m (m + 1) = some (ka 48 (fun _ => 0)) := (ku_n (by omega)).trans ku_s
def mH2 (h : kx_H) (m : Nat) : kx_H := kx_up (kx_up (mH1 h m) (m + 2) (ka 5 (fun _ => 0))) m (mE2 m)
theorem mH2_n {h : kx_H} {m q : Nat} (h0 : q ≠ m) (h1 : q ≠ m + 2) : mH2 h m q = mH1 h m q := (ku_n h0).trans (ku_n h1)
theorem mH2_a {h : kx_H} {m : Nat} : mH2 h m (m + 2) = some (ka 5 (fun _ => 0)) := (ku_n (by omega)).trans ku_s
def mH3 (h : kx_H) (m : Nat) : kx_H := kx_up (kx_up (mH2 h m) (m + 3) (ka 15 (fun _ => 0))) m (mE3 m)
theorem mH3_n {h : kx_H} {m q : Nat} (h0 : q ≠ m) (h1 : q ≠ m + 3) : mH3 h m q = mH2 h m q := (ku_n h0).trans (ku_n h1)
theorem mH3_a {h : kx_H} {m : Nat} : mH3 h m (m + 3) = some (ka 15 (fun _ => 0)) := (ku_n (by omega)).trans ku_s
def mH4 (h : kx_H) (m : Nat) : kx_H := kx_up (kx_up (mH3 h m) (m + 4) (ka 5 (fun _ => 0))) m (mE4 m)
theorem mH4_n {h : kx_H} {m q : Nat} (h0 : q ≠ m) (h1 : q ≠ m + 4) : mH4 h m q = mH3 h m q := (ku_n h0).trans (ku_n h1)
theorem mH4_a {h : kx_H} {m : Nat} : mH4 h m (m + 4) = some (ka 5 (fun _ => 0)) := (ku_n (by omega)).trans ku_s
def mH5 (h : kx_H) (m : Nat) : kx_H := kx_up (kx_up (mH4 h m) (m + 5) (ka 43 (fun _ => 0))) m (mE5 m)
theorem mH5_n {h : kx_H} {m q : Nat} (h0 : q ≠ m) (h1 : q ≠ m + 5) : mH5 h m q = mH4 h m q := (ku_n h0).trans (ku_n h1)
theorem mH5_a {h : kx_H} {m : Nat} : mH5 h m (m + 5) = some (ka 43 (fun _ => 0)) := (ku_n (by omega)).trans ku_s
def mH6 (h : kx_H) (m : Nat) : kx_H := kx_up (kx_up (mH5 h m) (m + 6) (ka 43 (fun _ => 0))) m (mE6 m)
theorem mH6_n {h : kx_H} {m q : Nat} (h0 : q ≠ m) (h1 : q ≠ m + 6) : mH6 h m q = mH5 h m q := (ku_n h0).trans (ku_n h1)
theorem mH6_a {h : kx_H} {m : Nat} : mH6 h m (m + 6) = some (ka 43 (fun _ => 0)) := (ku_n (by omega)).trans ku_s
def mH7 (h : kx_H) (m : Nat) : kx_H := kx_up (kx_up (mH6 h m) (m + 7) (ka 602 (fun _ => 0))) m (mE7 m)
theorem mH7_n {h : kx_H} {m q : Nat} (h0 : q ≠ m) (h1 : q ≠ m + 7) : mH7 h m q = mH6 h m q := (ku_n h0).trans (ku_n h1)
theorem mH7_a {h : kx_H} {m : Nat} : mH7 h m (m + 7) = some (ka 602 (fun _ => 0)) := (ku_n (by omega)).trans ku_s
def mH8 (h : kx_H) (m : Nat) : kx_H := kx_up (kx_up (mH7 h m) (m + 8) (ka 86 (fun _ => 0))) m (mE8 m)
theorem mH8_n {h : kx_H} {m q : Nat} (h0 : q ≠ m) (h1 : q ≠ m + 8) : mH8 h m q = mH7 h m q := (ku_n h0).trans (ku_n h1)
theorem mH8_a {h : kx_H} {m : Nat} : mH8 h m (m + 8) = some (ka 86 (fun _ => 0)) := (ku_n (by omega)).trans ku_s
def mH9 (h : kx_H) (m : Nat) : kx_H := kx_up (kx_up (mH8 h m) (m + 9) (kz (fun _ => 0))) m (mE9 m)
theorem mH9_n {h : kx_H} {m q : Nat} (h0 : q ≠ m) (h1 : q ≠ m + 9) : mH9 h m q = mH8 h m q := (ku_n h0).trans (ku_n h1)
theorem mH9_a {h : kx_H} {m : Nat} : mH9 h m (m + 9) = some (kz (fun _ => 0)) := (ku_n (by omega)).trans ku_s
def mH10 (h : kx_H) (m : Nat) : kx_H := kx_up (kx_up (mH9 h m) (m + 10) (ka 32 (fun _ => 0))) m (mE10 m)
theorem mH10_n {h : kx_H} {m q : Nat} (h0 : q ≠ m) (h1 : q ≠ m + 10) : mH10 h m q = mH9 h m q := (ku_n h0).trans (ku_n h1)
theorem mH10_a {h : kx_H} {m : Nat} : mH10 h m (m + 10) = some (ka 32 (fun _ => 0)) := (ku_n (by omega)).trans ku_s
theorem mH_low {h : kx_H} {m q : Nat} (hq : q < m) : mH10 h m q = h q := by
  rw [mH10_n (by omega) (by omega), mH9_n (by omega) (by omega), mH8_n (by omega) (by omega), mH7_n (by omega) (by omega), mH6_n (by omega) (by omega), mH5_n (by omega) (by omega), mH4_n (by omega) (by omega), mH3_n (by omega) (by omega), mH2_n (by omega) (by omega), mH1_n (by omega) (by omega)]
set_option maxRecDepth 20000 in
theorem fn_mInit {G : kx_G} {d m : Nat} {h : kx_H} (e0 : h m = some (mE0 m)) (hd : 2 ≤ d) : kx_Fn mX5_init d 10 881 G [.ref m] (m + 1) h (none, m + 11, mH10 h m) := by
  refine kx_Fn_of rfl (Nat.le_of_ble_eq_true rfl) rfl ?_ (fun q y hy => by
    rcases Nat.lt_or_ge q m with h1 | h1
    · have hy : mH10 h m q = some y := hy
      rw [mH_low h1] at hy
      exact kx_self _ _ hy
    · by_cases h2 : q = m
      · subst h2; exact kx_self _ _ e0
      · exact Or.inr (by omega))
  refine ko_aload_n (i := 0) dX5_init_0 rfl rfl ?_
  refine ko_objInit wo_X5 dX5_init_1 (by omega) (Nat.le_of_ble_eq_true rfl) ?_
  refine ko_aload_n (i := 0) dX5_init_4 rfl rfl ?_
  refine ko_bipush (v := 48) dX5_init_5 (by decide) ?_
  refine ko_newi (L := 48) dX5_init_7 (by decide) rfl (by decide) (Nat.le_of_ble_eq_true rfl) (Nat.le_of_ble_eq_true rfl) wa_int ?_
  refine ko_putF fl_X5_7 rfl rfl dX5_init_9 (by rw [ku_n (by omega)]; exact e0) rfl rfl (Nat.le_of_ble_eq_true rfl) ?_
  refine ko_h (h' := mH1 h m) rfl ?_
  refine ko_aload_n (i := 0) dX5_init_12 rfl rfl ?_
  refine ko_iconst (v := 5) dX5_init_13 (by decide) ?_
  refine ko_newi (L := 5) dX5_init_14 (by decide) rfl (by decide) (Nat.le_of_ble_eq_true rfl) (Nat.le_of_ble_eq_true rfl) wa_int ?_
  refine ko_putF fl_X5_13 rfl rfl dX5_init_16 (by rw [ku_n (by omega)]; exact ku_s) rfl rfl (Nat.le_of_ble_eq_true rfl) ?_
  refine ko_h (h' := mH2 h m) rfl ?_
  refine ko_aload_n (i := 0) dX5_init_19 rfl rfl ?_
  refine ko_bipush (v := 15) dX5_init_20 (by decide) ?_
  refine ko_newi (L := 15) dX5_init_22 (by decide) rfl (by decide) (Nat.le_of_ble_eq_true rfl) (Nat.le_of_ble_eq_true rfl) wa_int ?_
  refine ko_putF fl_X5_16 rfl rfl dX5_init_24 (by rw [ku_n (by omega)]; exact ku_s) rfl rfl (Nat.le_of_ble_eq_true rfl) ?_
  refine ko_h (h' := mH3 h m) rfl ?_
  refine ko_aload_n (i := 0) dX5_init_27 rfl rfl ?_
  refine ko_iconst (v := 5) dX5_init_28 (by decide) ?_
  refine ko_newi (L := 5) dX5_init_29 (by decide) rfl (by decide) (Nat.le_of_ble_eq_true rfl) (Nat.le_of_ble_eq_true rfl) wa_int ?_
  refine ko_putF fl_X5_19 rfl rfl dX5_init_31 (by rw [ku_n (by omega)]; exact ku_s) rfl rfl (Nat.le_of_ble_eq_true rfl) ?_
  refine ko_h (h' := mH4 h m) rfl ?_
  refine ko_aload_n (i := 0) dX5_init_34 rfl rfl ?_
  refine ko_bipush (v := 43) dX5_init_35 (by decide) ?_
  refine ko_newi (L := 43) dX5_init_37 (by decide) rfl (by decide) (Nat.le_of_ble_eq_true rfl) (Nat.le_of_ble_eq_true rfl) wa_int ?_
  refine ko_putF fl_X5_22 rfl rfl dX5_init_39 (by rw [ku_n (by omega)]; exact ku_s) rfl rfl (Nat.le_of_ble_eq_true rfl) ?_
  refine ko_h (h' := mH5 h m) rfl ?_
  refine ko_aload_n (i := 0) dX5_init_42 rfl rfl ?_
  refine ko_bipush (v := 43) dX5_init_43 (by decide) ?_
  refine ko_newi (L := 43) dX5_init_45 (by decide) rfl (by decide) (Nat.le_of_ble_eq_true rfl) (Nat.le_of_ble_eq_true rfl) wa_int ?_
  refine ko_putF fl_X5_25 rfl rfl dX5_init_47 (by rw [ku_n (by omega)]; exact ku_s) rfl rfl (Nat.le_of_ble_eq_true rfl) ?_
  refine ko_h (h' := mH6 h m) rfl ?_
  refine ko_aload_n (i := 0) dX5_init_50 rfl rfl ?_
  refine ko_sipush (v := 602) dX5_init_51 (by decide) ?_
  refine ko_newi (L := 602) dX5_init_54 (by decide) rfl (by decide) (Nat.le_of_ble_eq_true rfl) (Nat.le_of_ble_eq_true rfl) wa_int ?_
  refine ko_putF fl_X5_28 rfl rfl dX5_init_56 (by rw [ku_n (by omega)]; exact ku_s) rfl rfl (Nat.le_of_ble_eq_true rfl) ?_
  refine ko_h (h' := mH7 h m) rfl ?_
  refine ko_aload_n (i := 0) dX5_init_59 rfl rfl ?_
  refine ko_bipush (v := 86) dX5_init_60 (by decide) ?_
  refine ko_newi (L := 86) dX5_init_62 (by decide) rfl (by decide) (Nat.le_of_ble_eq_true rfl) (Nat.le_of_ble_eq_true rfl) wa_int ?_
  refine ko_putF fl_X5_31 rfl rfl dX5_init_64 (by rw [ku_n (by omega)]; exact ku_s) rfl rfl (Nat.le_of_ble_eq_true rfl) ?_
  refine ko_h (h' := mH8 h m) rfl ?_
  refine ko_aload_n (i := 0) dX5_init_67 rfl rfl ?_
  refine ko_iconst (v := 2) dX5_init_68 (by decide) ?_
  refine ko_newz (L := 2) dX5_init_69 (by decide) rfl (by decide) (Nat.le_of_ble_eq_true rfl) (Nat.le_of_ble_eq_true rfl) wa_boolean ?_
  refine ko_putF fl_X5_34 rfl rfl dX5_init_71 (by rw [ku_n (by omega)]; exact ku_s) rfl rfl (Nat.le_of_ble_eq_true rfl) ?_
  refine ko_h (h' := mH9 h m) rfl ?_
  refine ko_aload_n (i := 0) dX5_init_74 rfl rfl ?_
  refine ko_bipush (v := 32) dX5_init_75 (by decide) ?_
  refine ko_newi (L := 32) dX5_init_77 (by decide) rfl (by decide) (Nat.le_of_ble_eq_true rfl) (Nat.le_of_ble_eq_true rfl) wa_int ?_
  refine ko_putF fl_X5_38 rfl rfl dX5_init_79 (by rw [ku_n (by omega)]; exact ku_s) rfl rfl (Nat.le_of_ble_eq_true rfl) ?_
  refine ko_h (h' := mH10 h m) rfl ?_
  refine ko_vret dX5_init_82 rfl (Nat.le_of_ble_eq_true rfl) (Nat.le_of_ble_eq_true rfl) ?_
  rfl
theorem mH_M (h : kx_H) (m : Nat) (K : Nat → PU) (hK : ∀ i, K i = pZ) : kM (mH10 h m) m (fun _ => 0) 0 pZ 0 0 (fun _ => pZ) K (fun _ => 0) 0 := by
  refine ⟨(0, 0, 0, 0, 0, 0, 0, 0, 0, 0, 0), fun _ => 0, fun _ => 0, fun _ => 0, fun _ => 0, fun _ => 0, fun _ => 0, fun _ => 0, fun _ => 0, fun _ => 0, ⟨ku_s, by rw [mH10_n (by omega) (by omega), mH9_n (by omega) (by omega), mH8_n (by omega) (by omega), mH7_n (by omega) (by omega), mH6_n (by omega) (by omega), mH5_n (by omega) (by omega), mH4_n (by omega) (by omega), mH3_n (by omega) (by omega), mH2_n (by omega) (by omega)]; exact mH1_a, by rw [mH10_n (by omega) (by omega), mH9_n (by omega) (by omega), mH8_n (by omega) (by omega), mH7_n (by omega) (by omega), mH6_n (by omega) (by omega), mH5_n (by omega) (by omega), mH4_n (by omega) (by omega), mH3_n (by omega) (by omega)]; exact mH2_a, by rw [mH10_n (by omega) (by omega), mH9_n (by omega) (by omega), mH8_n (by omega) (by omega), mH7_n (by omega) (by omega), mH6_n (by omega) (by omega), mH5_n (by omega) (by omega), mH4_n (by omega) (by omega)]; exact mH3_a, by rw [mH10_n (by omega) (by omega), mH9_n (by omega) (by omega), mH8_n (by omega) (by omega), mH7_n (by omega) (by omega), mH6_n (by omega) (by omega), mH5_n (by omega) (by omega)]; exact mH4_a, by rw [mH10_n (by omega) (by omega), mH9_n (by omega) (by omega), mH8_n (by omega) (by omega), mH7_n (by omega) (by omega), mH6_n (by omega) (by omega)]; exact mH5_a, by rw [mH10_n (by omega) (by omega), mH9_n (by omega) (by omega), mH8_n (by omega) (by omega), mH7_n (by omega) (by omega)]; exact mH6_a, by rw [mH10_n (by omega) (by omega), mH9_n (by omega) (by omega), mH8_n (by omega) (by omega)]; exact mH7_a, by rw [mH10_n (by omega) (by omega), mH9_n (by omega) (by omega)]; exact mH8_a, by rw [mH10_n (by omega) (by omega)]; exact mH9_a, mH10_a⟩, rfl, rfl, rfl, rfl, fun j hj => absurd hj (Nat.not_lt_zero j), ?_, fun i hi => absurd hi (Nat.not_lt_zero i), fun i hi => ?_, fun i hi => rfl, by omega, by omega⟩
  · exact ⟨fun _ _ => rfl, fun _ _ => rfl, fun _ _ => rfl, rfl, fun _ _ => rfl, rfl, rfl⟩
  · rw [hK]
    exact ⟨fun _ _ => rfl, fun _ _ => rfl, fun _ _ => rfl, rfl, fun _ _ => rfl, rfl, rfl⟩
theorem made (h h2 : kx_H) (x m : Nat) (hm : x + 121 < m) (e : ∀ q, x ≤ q → q ≤ x + 121 → h2 q = iG h x q) : kJ (mH10 h2 m) x m :=
  ⟨_, _, _, _, _, _, _, _, _, kS_frame (iG_S h x) (fun q g1 g2 => by rw [mH_low (by omega), e q g1 g2]), mH_M h2 m (fun _ => pZ) (fun _ => rfl), WF_Z, fun i hi => absurd hi (Nat.not_lt_zero i), fun i hi hz => absurd rfl hz⟩
