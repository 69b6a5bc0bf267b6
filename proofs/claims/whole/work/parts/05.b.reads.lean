/-! ===== the object's methods ===== -/
theorem tsw (w : Int32) (n : Nat) (hn : n < 2 ^ 31) : (w.toInt < 0 ∨ (n : Int) < w.toInt) ∨ ∃ k, k ≤ n ∧ w = nI k := by
  by_cases h1 : w.toInt < 0
  · exact Or.inl (Or.inl h1)
  by_cases h2 : (n : Int) < w.toInt
  · exact Or.inl (Or.inr h2)
  refine Or.inr ⟨w.toInt.toNat, by omega, Int32.toInt_inj.mp ?_⟩
  rw [nI_toInt (by omega)]
  omega
theorem tsw_ne {w : Int32} {n : Nat} (ho : w.toInt < 0 ∨ (n : Int) < w.toInt) (hn : n < 2 ^ 31) (k : Nat) (hk : k ≤ n) : ¬ w = nI k := by
  intro e
  rw [e, nI_toInt (by omega)] at ho
  omega
def abI (L : Nat) (u : PU) (C : Nat) (w : Int32) : Int32 := if w = nI 0 then pN u else if w = nI 1 then pOp u else if w = nI 2 then pWk u else if w = nI 3 then pOn u else if w = nI 4 then nI C else if w = nI 5 then nI L else if w = nI 6 then asI u 5 else -2
def peI (u : PU) (p w : Int32) : Int32 := if hasI (pN u) p = false then -1 else if w = nI 0 then pSo u p.toNatClampNeg else if w = nI 1 then pAg u p.toNatClampNeg else if w = nI 2 then pKd u p.toNatClampNeg else if w = nI 3 then pKn u p.toNatClampNeg else if w = nI 4 then ozI u p else if w = nI 5 then twI u p 5 else -2
def owI (u : PU) (p q : Int32) : Int32 := if hasI (pN u) p = false then -1 else if hasI (pN u) q = false then -1 else dbI u p q
def noI (u : PU) (w : Int32) : Int32 := if w = 0 then uwI u 5 else if ¬ w = 1 then -2 else kaI u 5
set_option maxRecDepth 20000 in
theorem x_about {G : kx_G} {d N x : Nat} {h : kx_H} {T : Nat → Int32} {L : Nat} {u : PU} {C : Nat} {Ac K : Nat → PU} {kf : Nat → Int32} {sd : Int64} {w : Int32} (hS : kS h x T L u C Ac K kf sd) (hd : 20 ≤ d) : kx_Fn mX4_about d 0 0 G [.ref x, .int w] N h (some (.int (abI L u C w)), N, h) := by
  refine kx_Fn_of rfl (Nat.le_of_ble_eq_true rfl) rfl ?_ (kx_self)
  obtain ⟨told, trial, F, B, s, f, hi, hf, hF, hC, hB, hL⟩ := id hS
  obtain ⟨s1, s2, s3, s4, s5, s6, s7, s8, s9, s10, s11⟩ := id hi
  refine ko_iload_n (i := 1) dX4_about_0 rfl rfl ?_
  rcases tsw w 6 (by omega) with ho | ⟨k9, hk9, rfl⟩
  · refine ko_tableOut (tgt := 100) dX4_about_1 ho (by decide) ?_
    refine ko_bipush (v := (-2)) dX4_about_100 (by decide) ?_
    refine ko_iret dX4_about_102 rfl (Nat.le_of_ble_eq_true rfl) (Nat.le_of_ble_eq_true rfl) ?_
    unfold abI
    rw [if_neg (tsw_ne ho (by omega) 0 (by omega)), if_neg (tsw_ne ho (by omega) 1 (by omega)), if_neg (tsw_ne ho (by omega) 2 (by omega)), if_neg (tsw_ne ho (by omega) 3 (by omega)), if_neg (tsw_ne ho (by omega) 4 (by omega)), if_neg (tsw_ne ho (by omega) 5 (by omega)), if_neg (tsw_ne ho (by omega) 6 (by omega))]
  · rcases (show k9 = 0 ∨ k9 = 1 ∨ k9 = 2 ∨ k9 = 3 ∨ k9 = 4 ∨ k9 = 5 ∨ k9 = 6 by omega) with rfl | rfl | rfl | rfl | rfl | rfl | rfl
    · refine ko_tableIn (off := 43) (tgt := 44) dX4_about_1 (by decide) (by decide) rfl (by decide) ?_
      refine ko_aload_n (i := 0) dX4_about_44 rfl rfl ?_
      refine ko_get fl_X4_19 dX4_about_45 s1 rfl ?_
      refine ko_get fl_X4_74 dX4_about_48 s5.1 rfl ?_
      refine ko_iret dX4_about_51 rfl (Nat.le_of_ble_eq_true rfl) (Nat.le_of_ble_eq_true rfl) ?_
      rfl
    · refine ko_tableIn (off := 51) (tgt := 52) dX4_about_1 (by decide) (by decide) rfl (by decide) ?_
      refine ko_aload_n (i := 0) dX4_about_52 rfl rfl ?_
      refine ko_get fl_X4_19 dX4_about_53 s1 rfl ?_
      refine ko_get fl_X4_77 dX4_about_56 s5.1 rfl ?_
      refine ko_iret dX4_about_59 rfl (Nat.le_of_ble_eq_true rfl) (Nat.le_of_ble_eq_true rfl) ?_
      rfl
    · refine ko_tableIn (off := 59) (tgt := 60) dX4_about_1 (by decide) (by decide) rfl (by decide) ?_
      refine ko_aload_n (i := 0) dX4_about_60 rfl rfl ?_
      refine ko_get fl_X4_19 dX4_about_61 s1 rfl ?_
      refine ko_get fl_X4_80 dX4_about_64 s5.1 rfl ?_
      refine ko_iret dX4_about_67 rfl (Nat.le_of_ble_eq_true rfl) (Nat.le_of_ble_eq_true rfl) ?_
      rfl
    · refine ko_tableIn (off := 67) (tgt := 68) dX4_about_1 (by decide) (by decide) rfl (by decide) ?_
      refine ko_aload_n (i := 0) dX4_about_68 rfl rfl ?_
      refine ko_get fl_X4_19 dX4_about_69 s1 rfl ?_
      refine ko_get fl_X4_83 dX4_about_72 s5.1 rfl ?_
      refine ko_iret dX4_about_75 rfl (Nat.le_of_ble_eq_true rfl) (Nat.le_of_ble_eq_true rfl) ?_
      rfl
    · refine ko_tableIn (off := 75) (tgt := 76) dX4_about_1 (by decide) (by decide) rfl (by decide) ?_
      refine ko_aload_n (i := 0) dX4_about_76 rfl rfl ?_
      refine ko_get fl_X4_29 dX4_about_77 s1 rfl ?_
      refine ko_get fl_X4_86 dX4_about_80 s7.1 rfl ?_
      refine ko_iret dX4_about_83 rfl (Nat.le_of_ble_eq_true rfl) (Nat.le_of_ble_eq_true rfl) ?_
      rfl
    · refine ko_tableIn (off := 83) (tgt := 84) dX4_about_1 (by decide) (by decide) rfl (by decide) ?_
      refine ko_aload_n (i := 0) dX4_about_84 rfl rfl ?_
      refine ko_get fl_X4_10 dX4_about_85 s1 rfl ?_
      refine ko_get fl_X4_56 dX4_about_88 s2 rfl ?_
      refine ko_iret dX4_about_91 rfl (Nat.le_of_ble_eq_true rfl) (Nat.le_of_ble_eq_true rfl) ?_
      rfl
    · refine ko_tableIn (off := 91) (tgt := 92) dX4_about_1 (by decide) (by decide) rfl (by decide) ?_
      refine ko_aload_n (i := 0) dX4_about_92 rfl rfl ?_
      refine ko_get fl_X4_19 dX4_about_93 s1 rfl ?_
      refine ko_callVr lk_X4_87 dX4_about_96 (fn_allSorrow (d := d - 1) s5) rfl rfl s5.1 rfl rfl (by omega) (by omega) (by omega) (Nat.le_of_ble_eq_true rfl) ?_
      refine ko_iret dX4_about_99 rfl (Nat.le_of_ble_eq_true rfl) (Nat.le_of_ble_eq_true rfl) ?_
      rfl
set_option maxRecDepth 20000 in
theorem x_person {G : kx_G} {d N x : Nat} {h : kx_H} {T : Nat → Int32} {L : Nat} {u : PU} {C : Nat} {Ac K : Nat → PU} {kf : Nat → Int32} {sd : Int64} {p w : Int32} (hS : kS h x T L u C Ac K kf sd) (hd : 20 ≤ d) : kx_Fn mX4_person d 0 0 G [.ref x, .int p, .int w] N h (some (.int (peI u p w)), N, h) := by
  refine kx_Fn_of rfl (Nat.le_of_ble_eq_true rfl) rfl ?_ (kx_self)
  obtain ⟨told, trial, F, B, s, f, hi, hf, hF, hC, hB, hL⟩ := id hS
  obtain ⟨s1, s2, s3, s4, s5, s6, s7, s8, s9, s10, s11⟩ := id hi
  refine ko_aload_n (i := 0) dX4_person_0 rfl rfl ?_
  refine ko_get fl_X4_19 dX4_person_1 s1 rfl ?_
  refine ko_iload_n (i := 1) dX4_person_4 rfl rfl ?_
  refine ko_callVr lk_X4_90 dX4_person_5 (fn_has (d := d - 1) s5) rfl rfl s5.1 rfl rfl (by omega) (by omega) (by omega) (Nat.le_of_ble_eq_true rfl) ?_
  first | refine ko_ifb_ne (tgt := 13) dX4_person_8 (by decide) (fun c_8 => ?_) (fun c_8 => ?_) | refine ko_if_ne (tgt := 13) dX4_person_8 (by decide) (fun c_8 => ?_) (fun c_8 => ?_)
  · refine ko_iload_n (i := 2) dX4_person_13 rfl rfl ?_
    rcases tsw w 5 (by omega) with ho | ⟨k9, hk9, rfl⟩
    · refine ko_tableOut (tgt := 110) dX4_person_14 ho (by decide) ?_
      refine ko_bipush (v := (-2)) dX4_person_110 (by decide) ?_
      refine ko_iret dX4_person_112 rfl (Nat.le_of_ble_eq_true rfl) (Nat.le_of_ble_eq_true rfl) ?_
      unfold peI
      rw [if_neg (by rw [c_8]; decide), if_neg (tsw_ne ho (by omega) 0 (by omega)), if_neg (tsw_ne ho (by omega) 1 (by omega)), if_neg (tsw_ne ho (by omega) 2 (by omega)), if_neg (tsw_ne ho (by omega) 3 (by omega)), if_neg (tsw_ne ho (by omega) 4 (by omega)), if_neg (tsw_ne ho (by omega) 5 (by omega))]
    · rcases (show k9 = 0 ∨ k9 = 1 ∨ k9 = 2 ∨ k9 = 3 ∨ k9 = 4 ∨ k9 = 5 by omega) with rfl | rfl | rfl | rfl | rfl | rfl
      · refine ko_tableIn (off := 38) (tgt := 52) dX4_person_14 (by decide) (by decide) rfl (by decide) ?_
        refine ko_aload_n (i := 0) dX4_person_52 rfl rfl ?_
        refine ko_get fl_X4_19 dX4_person_53 s1 rfl ?_
        refine ko_get fl_X4_93 dX4_person_56 s5.1 rfl ?_
        refine ko_iload_n (i := 1) dX4_person_59 rfl rfl ?_
        first | refine ko_iald dX4_person_60 s5.2.1 (hasI_in c_8) ?_ | refine ko_iald dX4_person_60 s5.2.2.1 (hasI_in c_8) ?_ | refine ko_iald dX4_person_60 s5.2.2.2.1 (hasI_in c_8) ?_ | refine ko_iald dX4_person_60 s5.2.2.2.2.1 (hasI_in c_8) ?_ | refine ko_iald dX4_person_60 s5.2.2.2.2.2 (hasI_in c_8) ?_
        refine ko_iret dX4_person_61 rfl (Nat.le_of_ble_eq_true rfl) (Nat.le_of_ble_eq_true rfl) ?_
        unfold peI
        rw [if_neg (by rw [c_8]; decide)]
        rfl
      · refine ko_tableIn (off := 48) (tgt := 62) dX4_person_14 (by decide) (by decide) rfl (by decide) ?_
        refine ko_aload_n (i := 0) dX4_person_62 rfl rfl ?_
        refine ko_get fl_X4_19 dX4_person_63 s1 rfl ?_
        refine ko_get fl_X4_97 dX4_person_66 s5.1 rfl ?_
        refine ko_iload_n (i := 1) dX4_person_69 rfl rfl ?_
        first | refine ko_iald dX4_person_70 s5.2.1 (hasI_in c_8) ?_ | refine ko_iald dX4_person_70 s5.2.2.1 (hasI_in c_8) ?_ | refine ko_iald dX4_person_70 s5.2.2.2.1 (hasI_in c_8) ?_ | refine ko_iald dX4_person_70 s5.2.2.2.2.1 (hasI_in c_8) ?_ | refine ko_iald dX4_person_70 s5.2.2.2.2.2 (hasI_in c_8) ?_
        refine ko_iret dX4_person_71 rfl (Nat.le_of_ble_eq_true rfl) (Nat.le_of_ble_eq_true rfl) ?_
        unfold peI
        rw [if_neg (by rw [c_8]; decide)]
        rfl
      · refine ko_tableIn (off := 58) (tgt := 72) dX4_person_14 (by decide) (by decide) rfl (by decide) ?_
        refine ko_aload_n (i := 0) dX4_person_72 rfl rfl ?_
        refine ko_get fl_X4_19 dX4_person_73 s1 rfl ?_
        refine ko_get fl_X4_100 dX4_person_76 s5.1 rfl ?_
        refine ko_iload_n (i := 1) dX4_person_79 rfl rfl ?_
        first | refine ko_iald dX4_person_80 s5.2.1 (hasI_in c_8) ?_ | refine ko_iald dX4_person_80 s5.2.2.1 (hasI_in c_8) ?_ | refine ko_iald dX4_person_80 s5.2.2.2.1 (hasI_in c_8) ?_ | refine ko_iald dX4_person_80 s5.2.2.2.2.1 (hasI_in c_8) ?_ | refine ko_iald dX4_person_80 s5.2.2.2.2.2 (hasI_in c_8) ?_
        refine ko_iret dX4_person_81 rfl (Nat.le_of_ble_eq_true rfl) (Nat.le_of_ble_eq_true rfl) ?_
        unfold peI
        rw [if_neg (by rw [c_8]; decide)]
        rfl
      · refine ko_tableIn (off := 68) (tgt := 82) dX4_person_14 (by decide) (by decide) rfl (by decide) ?_
        refine ko_aload_n (i := 0) dX4_person_82 rfl rfl ?_
        refine ko_get fl_X4_19 dX4_person_83 s1 rfl ?_
        refine ko_get fl_X4_103 dX4_person_86 s5.1 rfl ?_
        refine ko_iload_n (i := 1) dX4_person_89 rfl rfl ?_
        first | refine ko_iald dX4_person_90 s5.2.1 (hasI_in c_8) ?_ | refine ko_iald dX4_person_90 s5.2.2.1 (hasI_in c_8) ?_ | refine ko_iald dX4_person_90 s5.2.2.2.1 (hasI_in c_8) ?_ | refine ko_iald dX4_person_90 s5.2.2.2.2.1 (hasI_in c_8) ?_ | refine ko_iald dX4_person_90 s5.2.2.2.2.2 (hasI_in c_8) ?_
        refine ko_iret dX4_person_91 rfl (Nat.le_of_ble_eq_true rfl) (Nat.le_of_ble_eq_true rfl) ?_
        unfold peI
        rw [if_neg (by rw [c_8]; decide)]
        rfl
      · refine ko_tableIn (off := 78) (tgt := 92) dX4_person_14 (by decide) (by decide) rfl (by decide) ?_
        refine ko_aload_n (i := 0) dX4_person_92 rfl rfl ?_
        refine ko_get fl_X4_19 dX4_person_93 s1 rfl ?_
        refine ko_iload_n (i := 1) dX4_person_96 rfl rfl ?_
        refine ko_callVr lk_X4_106 dX4_person_97 (fn_ounces (d := d - 1) s5 (by omega)) rfl rfl s5.1 rfl rfl (by omega) (by omega) (by omega) (Nat.le_of_ble_eq_true rfl) ?_
        refine ko_iret dX4_person_100 rfl (Nat.le_of_ble_eq_true rfl) (Nat.le_of_ble_eq_true rfl) ?_
        unfold peI
        rw [if_neg (by rw [c_8]; decide)]
        rfl
      · refine ko_tableIn (off := 87) (tgt := 101) dX4_person_14 (by decide) (by decide) rfl (by decide) ?_
        refine ko_aload_n (i := 0) dX4_person_101 rfl rfl ?_
        refine ko_get fl_X4_19 dX4_person_102 s1 rfl ?_
        refine ko_iload_n (i := 1) dX4_person_105 rfl rfl ?_
        refine ko_callVr lk_X4_110 dX4_person_106 (fn_thoseToWeepFor (d := d - 1) s5 (by omega)) rfl rfl s5.1 rfl rfl (by omega) (by omega) (by omega) (Nat.le_of_ble_eq_true rfl) ?_
        refine ko_iret dX4_person_109 rfl (Nat.le_of_ble_eq_true rfl) (Nat.le_of_ble_eq_true rfl) ?_
        unfold peI
        rw [if_neg (by rw [c_8]; decide)]
        rfl
  · refine ko_iconst (v := (-1)) dX4_person_11 (by decide) ?_
    refine ko_iret dX4_person_12 rfl (Nat.le_of_ble_eq_true rfl) (Nat.le_of_ble_eq_true rfl) ?_
    simp [peI, c_8]
set_option maxRecDepth 20000 in
theorem x_owes {G : kx_G} {d N x : Nat} {h : kx_H} {T : Nat → Int32} {L : Nat} {u : PU} {C : Nat} {Ac K : Nat → PU} {kf : Nat → Int32} {sd : Int64} {p q : Int32} (hS : kS h x T L u C Ac K kf sd) (hd : 20 ≤ d) : kx_Fn mX4_owes d 0 0 G [.ref x, .int p, .int q] N h (some (.int (owI u p q)), N, h) := by
  refine kx_Fn_of rfl (Nat.le_of_ble_eq_true rfl) rfl ?_ (kx_self)
  obtain ⟨told, trial, F, B, s, f, hi, hf, hF, hC, hB, hL⟩ := id hS
  obtain ⟨s1, s2, s3, s4, s5, s6, s7, s8, s9, s10, s11⟩ := id hi
  refine ko_aload_n (i := 0) dX4_owes_0 rfl rfl ?_
  refine ko_get fl_X4_19 dX4_owes_1 s1 rfl ?_
  refine ko_iload_n (i := 1) dX4_owes_4 rfl rfl ?_
  refine ko_callVr lk_X4_90 dX4_owes_5 (fn_has (d := d - 1) s5) rfl rfl s5.1 rfl rfl (by omega) (by omega) (by omega) (Nat.le_of_ble_eq_true rfl) ?_
  first | refine ko_ifb_eq (tgt := 22) dX4_owes_8 (by decide) (fun c_8 => ?_) (fun c_8 => ?_) | refine ko_if_eq (tgt := 22) dX4_owes_8 (by decide) (fun c_8 => ?_) (fun c_8 => ?_)
  · refine ko_iconst (v := (-1)) dX4_owes_22 (by decide) ?_
    refine ko_iret dX4_owes_23 rfl (Nat.le_of_ble_eq_true rfl) (Nat.le_of_ble_eq_true rfl) ?_
    simp [owI, c_8]
  · refine ko_aload_n (i := 0) dX4_owes_11 rfl rfl ?_
    refine ko_get fl_X4_19 dX4_owes_12 s1 rfl ?_
    refine ko_iload_n (i := 2) dX4_owes_15 rfl rfl ?_
    refine ko_callVr lk_X4_90 dX4_owes_16 (fn_has (d := d - 1) s5) rfl rfl s5.1 rfl rfl (by omega) (by omega) (by omega) (Nat.le_of_ble_eq_true rfl) ?_
    first | refine ko_ifb_ne (tgt := 24) dX4_owes_19 (by decide) (fun c_19 => ?_) (fun c_19 => ?_) | refine ko_if_ne (tgt := 24) dX4_owes_19 (by decide) (fun c_19 => ?_) (fun c_19 => ?_)
    · refine ko_aload_n (i := 0) dX4_owes_24 rfl rfl ?_
      refine ko_get fl_X4_19 dX4_owes_25 s1 rfl ?_
      refine ko_iload_n (i := 1) dX4_owes_28 rfl rfl ?_
      refine ko_iload_n (i := 2) dX4_owes_29 rfl rfl ?_
      refine ko_callVr lk_X4_113 dX4_owes_30 (fn_debt (d := d - 1) s5 (by omega)) rfl rfl s5.1 rfl rfl (by omega) (by omega) (by omega) (Nat.le_of_ble_eq_true rfl) ?_
      refine ko_iret dX4_owes_33 rfl (Nat.le_of_ble_eq_true rfl) (Nat.le_of_ble_eq_true rfl) ?_
      simp [owI, c_8, c_19]
    · refine ko_iconst (v := (-1)) dX4_owes_22 (by decide) ?_
      refine ko_iret dX4_owes_23 rfl (Nat.le_of_ble_eq_true rfl) (Nat.le_of_ble_eq_true rfl) ?_
      simp [owI, c_8, c_19]
set_option maxRecDepth 20000 in
theorem x_nobody {G : kx_G} {d N x : Nat} {h : kx_H} {T : Nat → Int32} {L : Nat} {u : PU} {C : Nat} {Ac K : Nat → PU} {kf : Nat → Int32} {sd : Int64} {w : Int32} (hS : kS h x T L u C Ac K kf sd) (hd : 20 ≤ d) : kx_Fn mX4_nobody d 0 0 G [.ref x, .int w] N h (some (.int (noI u w)), N, h) := by
  refine kx_Fn_of rfl (Nat.le_of_ble_eq_true rfl) rfl ?_ (kx_self)
  obtain ⟨told, trial, F, B, s, f, hi, hf, hF, hC, hB, hL⟩ := id hS
  obtain ⟨s1, s2, s3, s4, s5, s6, s7, s8, s9, s10, s11⟩ := id hi
  refine ko_iload_n (i := 1) dX4_nobody_0 rfl rfl ?_
  refine ko_if_ne (tgt := 12) dX4_nobody_1 (by decide) (fun c_1 => ?_) (fun c_1 => ?_)
  · refine ko_iload_n (i := 1) dX4_nobody_12 rfl rfl ?_
    refine ko_iconst (v := 1) dX4_nobody_13 (by decide) ?_
    refine ko_icmp_ne (tgt := 27) dX4_nobody_14 (by decide) (fun c_14 => ?_) (fun c_14 => ?_)
    · refine ko_bipush (v := (-2)) dX4_nobody_27 (by decide) ?_
      refine ko_iret dX4_nobody_29 rfl (Nat.le_of_ble_eq_true rfl) (Nat.le_of_ble_eq_true rfl) ?_
      simp [noI, c_1, c_14]
    · refine ko_aload_n (i := 0) dX4_nobody_17 rfl rfl ?_
      refine ko_get fl_X4_19 dX4_nobody_18 s1 rfl ?_
      refine ko_callVr lk_X4_170 dX4_nobody_21 (fn_kinToAllBits (d := d - 1) s5 (by omega)) rfl rfl s5.1 rfl rfl (by omega) (by omega) (by omega) (Nat.le_of_ble_eq_true rfl) ?_
      refine ko_goto (tgt := 29) dX4_nobody_24 (by decide) ?_
      refine ko_iret dX4_nobody_29 rfl (Nat.le_of_ble_eq_true rfl) (Nat.le_of_ble_eq_true rfl) ?_
      simp [noI, c_1, c_14]
  · refine ko_aload_n (i := 0) dX4_nobody_4 rfl rfl ?_
    refine ko_get fl_X4_19 dX4_nobody_5 s1 rfl ?_
    refine ko_callVr lk_X4_167 dX4_nobody_8 (fn_unweptBits (d := d - 1) s5 (by omega)) rfl rfl s5.1 rfl rfl (by omega) (by omega) (by omega) (Nat.le_of_ble_eq_true rfl) ?_
    refine ko_iret dX4_nobody_11 rfl (Nat.le_of_ble_eq_true rfl) (Nat.le_of_ble_eq_true rfl) ?_
    simp [noI, c_1]
def neI (u : PU) (p : Int32) : Nat → Int32
  | 0 => 100
  | i + 1 => neI u p i + (dbI u (nI i) p - dbI u p (nI i))
def riI (u : PU) : Nat → Int32
  | 0 => 0
  | i + 1 => riI u i ||| (rbI u (nI i) 5 &&& 1 <<< (nI i &&& 31))
def whI (u : PU) (w : Int32) : Nat → Int32
  | 0 => 0
  | i + 1 => if ¬ ozI u (nI i) = w then whI u w i else whI u w i ||| 1 <<< (nI i &&& 31)
set_option maxRecDepth 20000 in
theorem x_net {G : kx_G} {d N x : Nat} {h : kx_H} {T : Nat → Int32} {L : Nat} {u : PU} {C : Nat} {Ac K : Nat → PU} {kf : Nat → Int32} {sd : Int64} {m : Nat} {p : Int32} (hS : kS h x T L u C Ac K kf sd) (hn : pN u = nI m) (hm : m ≤ 5) (hd : 20 ≤ d) : kx_Fn mX4_net d 0 0 G [.ref x, .int p] N h (some (.int (if hasI (pN u) p = false then -1 else neI u p m)), N, h) := by
  refine kx_Fn_of rfl (Nat.le_of_ble_eq_true rfl) rfl ?_ (kx_self)
  obtain ⟨told, trial, F, B, s, f, hi, hf, hF, hC, hB, hL⟩ := id hS
  obtain ⟨s1, s2, s3, s4, s5, s6, s7, s8, s9, s10, s11⟩ := id hi
  have LOOP : ∀ (k i : Nat), k + i = m → kx_Ok mX4_net d 0 0 G 0 0 18 [(0, .ref x), (1, .int p), (2, .int (neI u p i)), (3, .int (nI i))] [] N h (some (.int (neI u p m)), N, h) := by
    intro k
    induction k with
    | zero =>
      intro i hi
      obtain rfl : m = i := by omega
      refine ko_iload_n (i := 3) dX4_net_18 rfl rfl ?_
      refine ko_aload_n (i := 0) dX4_net_19 rfl rfl ?_
      refine ko_get fl_X4_19 dX4_net_20 s1 rfl ?_
      refine ko_get fl_X4_74 dX4_net_23 s5.1 rfl ?_
      refine ko_icmp_ge (tgt := 57) dX4_net_26 (by decide) (fun c_26 => ?_) (fun c_26 => ?_)
      · refine ko_iload_n (i := 2) dX4_net_57 rfl rfl ?_
        refine ko_iret dX4_net_58 rfl (Nat.le_of_ble_eq_true rfl) (Nat.le_of_ble_eq_true rfl) ?_
        rfl
      · exact absurd (show pN u ≤ nI m by rw [hn]; exact nI_le (Nat.le_refl _) (by omega)) c_26
    | succ k ih =>
      intro i hi
      refine ko_iload_n (i := 3) dX4_net_18 rfl rfl ?_
      refine ko_aload_n (i := 0) dX4_net_19 rfl rfl ?_
      refine ko_get fl_X4_19 dX4_net_20 s1 rfl ?_
      refine ko_get fl_X4_74 dX4_net_23 s5.1 rfl ?_
      refine ko_icmp_ge (tgt := 57) dX4_net_26 (by decide) (fun c_26 => ?_) (fun c_26 => ?_)
      · exact absurd (show nI m ≤ nI i from by rw [← hn]; exact c_26) (nI_ge (by omega) (by omega))
      · refine ko_iload_n (i := 2) dX4_net_29 rfl rfl ?_
        refine ko_aload_n (i := 0) dX4_net_30 rfl rfl ?_
        refine ko_get fl_X4_19 dX4_net_31 s1 rfl ?_
        refine ko_iload_n (i := 3) dX4_net_34 rfl rfl ?_
        refine ko_iload_n (i := 1) dX4_net_35 rfl rfl ?_
        refine ko_callVr lk_X4_113 dX4_net_36 (fn_debt (d := d - 1) s5 (by omega)) rfl rfl s5.1 rfl rfl (by omega) (by omega) (by omega) (Nat.le_of_ble_eq_true rfl) ?_
        refine ko_aload_n (i := 0) dX4_net_39 rfl rfl ?_
        refine ko_get fl_X4_19 dX4_net_40 s1 rfl ?_
        refine ko_iload_n (i := 1) dX4_net_43 rfl rfl ?_
        refine ko_iload_n (i := 3) dX4_net_44 rfl rfl ?_
        refine ko_callVr lk_X4_113 dX4_net_45 (fn_debt (d := d - 1) s5 (by omega)) rfl rfl s5.1 rfl rfl (by omega) (by omega) (by omega) (Nat.le_of_ble_eq_true rfl) ?_
        refine ko_isub dX4_net_48 ?_
        refine ko_iadd dX4_net_49 ?_
        refine ko_istore_n (i := 2) (lv' := [(0, _), (1, _), (2, _), (3, _)]) dX4_net_50 rfl (by decide) rfl rfl rfl ?_
        refine ko_inc1 (i := 3) (lv' := [(0, _), (1, _), (2, _), (3, _)]) dX4_net_51 rfl (by decide) rfl rfl rfl ?_
        refine ko_goto (tgt := 18) dX4_net_54 (by decide) ?_
        exact ko_lv (by simp [neI, nI_succ, c_26]) (ih (i + 1) (by omega))
  refine ko_aload_n (i := 0) dX4_net_0 rfl rfl ?_
  refine ko_get fl_X4_19 dX4_net_1 s1 rfl ?_
  refine ko_iload_n (i := 1) dX4_net_4 rfl rfl ?_
  refine ko_callVr lk_X4_90 dX4_net_5 (fn_has (d := d - 1) s5) rfl rfl s5.1 rfl rfl (by omega) (by omega) (by omega) (Nat.le_of_ble_eq_true rfl) ?_
  first | refine ko_ifb_ne (tgt := 13) dX4_net_8 (by decide) (fun c_8 => ?_) (fun c_8 => ?_) | refine ko_if_ne (tgt := 13) dX4_net_8 (by decide) (fun c_8 => ?_) (fun c_8 => ?_)
  · refine ko_bipush (v := 100) dX4_net_13 (by decide) ?_
    refine ko_istore_n (i := 2) (lv' := [(0, _), (1, _), (2, _)]) dX4_net_15 rfl (by decide) rfl rfl rfl ?_
    refine ko_iconst (v := 0) dX4_net_16 (by decide) ?_
    refine ko_istore_n (i := 3) (lv' := [(0, _), (1, _), (2, _), (3, _)]) dX4_net_17 rfl (by decide) rfl rfl rfl ?_
    rw [if_neg (by rw [c_8]; decide)]
    exact LOOP m 0 (by omega)
  · refine ko_iconst (v := (-1)) dX4_net_11 (by decide) ?_
    refine ko_iret dX4_net_12 rfl (Nat.le_of_ble_eq_true rfl) (Nat.le_of_ble_eq_true rfl) ?_
    simp [c_8]
set_option maxRecDepth 20000 in
theorem x_ring {G : kx_G} {d N x : Nat} {h : kx_H} {T : Nat → Int32} {L : Nat} {u : PU} {C : Nat} {Ac K : Nat → PU} {kf : Nat → Int32} {sd : Int64} {m : Nat}  (hS : kS h x T L u C Ac K kf sd) (hn : pN u = nI m) (hm : m ≤ 5) (hd : 20 ≤ d) : kx_Fn mX4_ring d 0 0 G [.ref x] N h (some (.int (riI u m)), N, h) := by
  refine kx_Fn_of rfl (Nat.le_of_ble_eq_true rfl) rfl ?_ (kx_self)
  obtain ⟨told, trial, F, B, s, f, hi, hf, hF, hC, hB, hL⟩ := id hS
  obtain ⟨s1, s2, s3, s4, s5, s6, s7, s8, s9, s10, s11⟩ := id hi
  have LOOP : ∀ (k i : Nat), k + i = m → kx_Ok mX4_ring d 0 0 G 0 0 4 [(0, .ref x), (1, .int (riI u i)), (2, .int (nI i))] [] N h (some (.int (riI u m)), N, h) := by
    intro k
    induction k with
    | zero =>
      intro i hi
      obtain rfl : m = i := by omega
      refine ko_iload_n (i := 2) dX4_ring_4 rfl rfl ?_
      refine ko_aload_n (i := 0) dX4_ring_5 rfl rfl ?_
      refine ko_get fl_X4_19 dX4_ring_6 s1 rfl ?_
      refine ko_get fl_X4_74 dX4_ring_9 s5.1 rfl ?_
      refine ko_icmp_ge (tgt := 36) dX4_ring_12 (by decide) (fun c_12 => ?_) (fun c_12 => ?_)
      · refine ko_iload_n (i := 1) dX4_ring_36 rfl rfl ?_
        refine ko_iret dX4_ring_37 rfl (Nat.le_of_ble_eq_true rfl) (Nat.le_of_ble_eq_true rfl) ?_
        rfl
      · exact absurd (show pN u ≤ nI m by rw [hn]; exact nI_le (Nat.le_refl _) (by omega)) c_12
    | succ k ih =>
      intro i hi
      refine ko_iload_n (i := 2) dX4_ring_4 rfl rfl ?_
      refine ko_aload_n (i := 0) dX4_ring_5 rfl rfl ?_
      refine ko_get fl_X4_19 dX4_ring_6 s1 rfl ?_
      refine ko_get fl_X4_74 dX4_ring_9 s5.1 rfl ?_
      refine ko_icmp_ge (tgt := 36) dX4_ring_12 (by decide) (fun c_12 => ?_) (fun c_12 => ?_)
      · exact absurd (show nI m ≤ nI i from by rw [← hn]; exact c_12) (nI_ge (by omega) (by omega))
      · refine ko_iload_n (i := 1) dX4_ring_15 rfl rfl ?_
        refine ko_aload_n (i := 0) dX4_ring_16 rfl rfl ?_
        refine ko_get fl_X4_19 dX4_ring_17 s1 rfl ?_
        refine ko_iload_n (i := 2) dX4_ring_20 rfl rfl ?_
        refine ko_callVr lk_X4_173 dX4_ring_21 (fn_reachedByDebts (d := d - 1) s5 (by omega)) rfl rfl s5.1 rfl rfl (by omega) (by omega) (by omega) (Nat.le_of_ble_eq_true rfl) ?_
        refine ko_iconst (v := 1) dX4_ring_24 (by decide) ?_
        refine ko_iload_n (i := 2) dX4_ring_25 rfl rfl ?_
        refine ko_ishl dX4_ring_26 ?_
        refine ko_iand dX4_ring_27 ?_
        refine ko_ior dX4_ring_28 ?_
        refine ko_istore_n (i := 1) (lv' := [(0, _), (1, _), (2, _)]) dX4_ring_29 rfl (by decide) rfl rfl rfl ?_
        refine ko_inc1 (i := 2) (lv' := [(0, _), (1, _), (2, _)]) dX4_ring_30 rfl (by decide) rfl rfl rfl ?_
        refine ko_goto (tgt := 4) dX4_ring_33 (by decide) ?_
        exact ko_lv (by simp [riI, nI_succ, c_12]) (ih (i + 1) (by omega))
  refine ko_iconst (v := 0) dX4_ring_0 (by decide) ?_
  refine ko_istore_n (i := 1) (lv' := [(0, _), (1, _)]) dX4_ring_1 rfl (by decide) rfl rfl rfl ?_
  refine ko_iconst (v := 0) dX4_ring_2 (by decide) ?_
  refine ko_istore_n (i := 2) (lv' := [(0, _), (1, _), (2, _)]) dX4_ring_3 rfl (by decide) rfl rfl rfl ?_
  exact LOOP m 0 (by omega)
set_option maxRecDepth 20000 in
theorem x_whose {G : kx_G} {d N x : Nat} {h : kx_H} {T : Nat → Int32} {L : Nat} {u : PU} {C : Nat} {Ac K : Nat → PU} {kf : Nat → Int32} {sd : Int64} {m : Nat} {w : Int32} (hS : kS h x T L u C Ac K kf sd) (hn : pN u = nI m) (hm : m ≤ 5) (hd : 20 ≤ d) : kx_Fn mX4_whose d 0 0 G [.ref x, .int w] N h (some (.int (if w < 1 then -2 else if ¬ w ≤ 9 then -2 else whI u w m)), N, h) := by
  refine kx_Fn_of rfl (Nat.le_of_ble_eq_true rfl) rfl ?_ (kx_self)
  obtain ⟨told, trial, F, B, s, f, hi, hf, hF, hC, hB, hL⟩ := id hS
  obtain ⟨s1, s2, s3, s4, s5, s6, s7, s8, s9, s10, s11⟩ := id hi
  have LOOP : ∀ (k i : Nat), k + i = m → kx_Ok mX4_whose d 0 0 G 0 0 18 [(0, .ref x), (1, .int w), (2, .int (whI u w i)), (3, .int (nI i))] [] N h (some (.int (whI u w m)), N, h) := by
    intro k
    induction k with
    | zero =>
      intro i hi
      obtain rfl : m = i := by omega
      refine ko_iload_n (i := 3) dX4_whose_18 rfl rfl ?_
      refine ko_aload_n (i := 0) dX4_whose_19 rfl rfl ?_
      refine ko_get fl_X4_19 dX4_whose_20 s1 rfl ?_
      refine ko_get fl_X4_74 dX4_whose_23 s5.1 rfl ?_
      refine ko_icmp_ge (tgt := 53) dX4_whose_26 (by decide) (fun c_26 => ?_) (fun c_26 => ?_)
      · refine ko_iload_n (i := 2) dX4_whose_53 rfl rfl ?_
        refine ko_iret dX4_whose_54 rfl (Nat.le_of_ble_eq_true rfl) (Nat.le_of_ble_eq_true rfl) ?_
        rfl
      · exact absurd (show pN u ≤ nI m by rw [hn]; exact nI_le (Nat.le_refl _) (by omega)) c_26
    | succ k ih =>
      intro i hi
      refine ko_iload_n (i := 3) dX4_whose_18 rfl rfl ?_
      refine ko_aload_n (i := 0) dX4_whose_19 rfl rfl ?_
      refine ko_get fl_X4_19 dX4_whose_20 s1 rfl ?_
      refine ko_get fl_X4_74 dX4_whose_23 s5.1 rfl ?_
      refine ko_icmp_ge (tgt := 53) dX4_whose_26 (by decide) (fun c_26 => ?_) (fun c_26 => ?_)
      · exact absurd (show nI m ≤ nI i from by rw [← hn]; exact c_26) (nI_ge (by omega) (by omega))
      · refine ko_aload_n (i := 0) dX4_whose_29 rfl rfl ?_
        refine ko_get fl_X4_19 dX4_whose_30 s1 rfl ?_
        refine ko_iload_n (i := 3) dX4_whose_33 rfl rfl ?_
        refine ko_callVr lk_X4_106 dX4_whose_34 (fn_ounces (d := d - 1) s5 (by omega)) rfl rfl s5.1 rfl rfl (by omega) (by omega) (by omega) (Nat.le_of_ble_eq_true rfl) ?_
        refine ko_iload_n (i := 1) dX4_whose_37 rfl rfl ?_
        refine ko_icmp_ne (tgt := 47) dX4_whose_38 (by decide) (fun c_38 => ?_) (fun c_38 => ?_)
        · refine ko_inc1 (i := 3) (lv' := [(0, _), (1, _), (2, _), (3, _)]) dX4_whose_47 rfl (by decide) rfl rfl rfl ?_
          refine ko_goto (tgt := 18) dX4_whose_50 (by decide) ?_
          exact ko_lv (by simp [whI, nI_succ, c_26, c_38]) (ih (i + 1) (by omega))
        · refine ko_iload_n (i := 2) dX4_whose_41 rfl rfl ?_
          refine ko_iconst (v := 1) dX4_whose_42 (by decide) ?_
          refine ko_iload_n (i := 3) dX4_whose_43 rfl rfl ?_
          refine ko_ishl dX4_whose_44 ?_
          refine ko_ior dX4_whose_45 ?_
          refine ko_istore_n (i := 2) (lv' := [(0, _), (1, _), (2, _), (3, _)]) dX4_whose_46 rfl (by decide) rfl rfl rfl ?_
          refine ko_inc1 (i := 3) (lv' := [(0, _), (1, _), (2, _), (3, _)]) dX4_whose_47 rfl (by decide) rfl rfl rfl ?_
          refine ko_goto (tgt := 18) dX4_whose_50 (by decide) ?_
          exact ko_lv (by simp [whI, nI_succ, c_26, c_38]) (ih (i + 1) (by omega))
  refine ko_iload_n (i := 1) dX4_whose_0 rfl rfl ?_
  refine ko_iconst (v := 1) dX4_whose_1 (by decide) ?_
  refine ko_icmp_lt (tgt := 11) dX4_whose_2 (by decide) (fun c_2 => ?_) (fun c_2 => ?_)
  · refine ko_bipush (v := (-2)) dX4_whose_11 (by decide) ?_
    refine ko_iret dX4_whose_13 rfl (Nat.le_of_ble_eq_true rfl) (Nat.le_of_ble_eq_true rfl) ?_
    simp [c_2]
  · refine ko_iload_n (i := 1) dX4_whose_5 rfl rfl ?_
    refine ko_bipush (v := 9) dX4_whose_6 (by decide) ?_
    refine ko_icmp_le (tgt := 14) dX4_whose_8 (by decide) (fun c_8 => ?_) (fun c_8 => ?_)
    · refine ko_iconst (v := 0) dX4_whose_14 (by decide) ?_
      refine ko_istore_n (i := 2) (lv' := [(0, _), (1, _), (2, _)]) dX4_whose_15 rfl (by decide) rfl rfl rfl ?_
      refine ko_iconst (v := 0) dX4_whose_16 (by decide) ?_
      refine ko_istore_n (i := 3) (lv' := [(0, _), (1, _), (2, _), (3, _)]) dX4_whose_17 rfl (by decide) rfl rfl rfl ?_
      rw [if_neg c_2, if_neg (by simp [c_8])]
      exact LOOP m 0 (by omega)
    · refine ko_bipush (v := (-2)) dX4_whose_11 (by decide) ?_
      refine ko_iret dX4_whose_13 rfl (Nat.le_of_ble_eq_true rfl) (Nat.le_of_ble_eq_true rfl) ?_
      simp [c_2, c_8]
set_option maxRecDepth 20000 in
theorem x_fault {G : kx_G} {d N x : Nat} {h : kx_H} {T : Nat → Int32} {L : Nat} {u : PU} {C : Nat} {Ac K : Nat → PU} {kf : Nat → Int32} {sd : Int64}  (hS : kS h x T L u C Ac K kf sd)  (hd : 20 ≤ d) : ∃ g, kx_Fn mX4_fault d 0 0 G [.ref x] N h (some (.int (rlR T (nI L)).1), N, g) ∧ kS g x T L u C Ac K kf sd ∧ kFr h g x 121 := by
  obtain ⟨told, trial, F, B, s, f, hi, hf, hF, hC, hB, hL⟩ := id hS
  obtain ⟨s1, s2, s3, s4, s5, s6, s7, s8, s9, s10, s11⟩ := id hi
  have fr : kFr h (kp_put h (x + 3) (rlR T (nI L)).2) x 121 := kFr.put (by omega)
  refine ⟨(kp_put h (x + 3) (rlR T (nI L)).2), kx_Fn_of rfl (Nat.le_of_ble_eq_true rfl) rfl ?_ (kS_dom hS fr), ⟨_, trial, F, B, s, f, kSi_told hi _, hf, hF, hC, hB, hL⟩, fr⟩
  · refine ko_aload_n (i := 0) dX4_fault_0 rfl rfl ?_
    refine ko_get fl_X4_10 dX4_fault_1 s1 rfl ?_
    refine ko_callVr lk_X4_60 dX4_fault_4 (fn_readLand (d := d - 1) s2 s3 s4 rfl hL (by omega)) rfl rfl s2 rfl rfl (by omega) (by omega) (by omega) (Nat.le_of_ble_eq_true rfl) ?_
    refine ko_iret dX4_fault_7 rfl (Nat.le_of_ble_eq_true rfl) (Nat.le_of_ble_eq_true rfl) ?_
    rfl
set_option maxRecDepth 20000 in
theorem x_wipe {G : kx_G} {d N x : Nat} {h : kx_H} {T : Nat → Int32} {L : Nat} {u : PU} {C : Nat} {Ac K : Nat → PU} {kf : Nat → Int32} {sd : Int64}  (hS : kS h x T L u C Ac K kf sd)  (hd : 20 ≤ d) : ∃ g, kx_Fn mX4_wipe d 0 0 G [.ref x] N h (some (.int (nI L)), N, g) ∧ kS g x T 0 u C Ac K kf sd ∧ kFr h g x 121 := by
  obtain ⟨told, trial, F, B, s, f, hi, hf, hF, hC, hB, hL⟩ := id hS
  obtain ⟨s1, s2, s3, s4, s5, s6, s7, s8, s9, s10, s11⟩ := id hi
  have fr : kFr h (kx_up (kx_up h (x + 2) (kl_a T)) (x + 1) (klo (x + 1) (nI 0))) x 121 := (kFr.up (by omega)).tr (kFr.up (by omega))
  refine ⟨(kx_up (kx_up h (x + 2) (kl_a T)) (x + 1) (klo (x + 1) (nI 0))), kx_Fn_of rfl (Nat.le_of_ble_eq_true rfl) rfl ?_ (kS_dom hS fr), ⟨told, trial, F, B, s, f, kSi_text hi T 0, hf, hF, hC, hB, by omega⟩, fr⟩
  · refine ko_aload_n (i := 0) dX4_wipe_0 rfl rfl ?_
    refine ko_get fl_X4_10 dX4_wipe_1 s1 rfl ?_
    refine ko_get fl_X4_56 dX4_wipe_4 s2 rfl ?_
    refine ko_istore_n (i := 1) (lv' := [(0, _), (1, _)]) dX4_wipe_7 rfl (by decide) rfl rfl rfl ?_
    refine ko_aload_n (i := 0) dX4_wipe_8 rfl rfl ?_
    refine ko_get fl_X4_10 dX4_wipe_9 s1 rfl ?_
    refine ko_iconst (v := 0) dX4_wipe_12 (by decide) ?_
    refine ko_put fl_X4_56 dX4_wipe_13 s2 rfl rfl (Nat.le_of_ble_eq_true rfl) ?_
    refine ko_iload_n (i := 1) dX4_wipe_16 rfl rfl ?_
    refine ko_iret dX4_wipe_17 rfl (Nat.le_of_ble_eq_true rfl) (Nat.le_of_ble_eq_true rfl) ?_
    rw [ku_same (show h (x + 2) = some (kl_a T) from s3)]
    rfl
set_option maxRecDepth 20000 in
theorem x_seed {G : kx_G} {d N x : Nat} {h : kx_H} {T : Nat → Int32} {L : Nat} {u : PU} {C : Nat} {Ac K : Nat → PU} {kf : Nat → Int32} {sd : Int64} {v : Int64} (hS : kS h x T L u C Ac K kf sd)  (hd : 20 ≤ d) : ∃ g, kx_Fn mX4_seed d 0 0 G [.ref x, .long v] N h (some (.long sd), N, g) ∧ kS g x T L u C Ac K kf v ∧ kFr h g x 121 := by
  obtain ⟨told, trial, F, B, s, f, hi, hf, hF, hC, hB, hL⟩ := id hS
  obtain ⟨s1, s2, s3, s4, s5, s6, s7, s8, s9, s10, s11⟩ := id hi
  have fr : kFr h (kx_up h x (kxo x v)) x 121 := kFr.up (by omega)
  refine ⟨(kx_up h x (kxo x v)), kx_Fn_of rfl (Nat.le_of_ble_eq_true rfl) rfl ?_ (kS_dom hS fr), ⟨told, trial, F, B, s, f, kSi_seed hi v, hf, hF, hC, hB, hL⟩, fr⟩
  · refine ko_aload_n (i := 0) dX4_seed_0 rfl rfl ?_
    refine ko_get fl_X4_48 dX4_seed_1 s1 rfl ?_
    refine ko_lstore_n (i := 3) (lv' := [(3, _), (0, _), (1, _)]) dX4_seed_4 rfl (by decide) rfl ?_
    refine ko_aload_n (i := 0) dX4_seed_5 rfl rfl ?_
    refine ko_lload_n (i := 1) dX4_seed_6 rfl rfl ?_
    refine ko_put fl_X4_48 dX4_seed_7 s1 rfl rfl (Nat.le_of_ble_eq_true rfl) ?_
    refine ko_lload_n (i := 3) dX4_seed_10 rfl rfl ?_
    refine ko_lret dX4_seed_11 rfl (Nat.le_of_ble_eq_true rfl) (Nat.le_of_ble_eq_true rfl) ?_
    rfl
theorem fn_searchS {G : kx_G} {d N a b : Nat} {h : kx_H} {u : PU} {s S : SU} {op fr : Int32} (hP : kP h a u) (hb : h b = some (kso s)) (hab : b < a ∨ a + 5 < b) (hd : 9 ≤ d) (e : seU u op fr = S) : kx_Fn mX3_search d 0 0 G [.ref b, .ref a, .int op, .int fr] N h (some (.int S.2.1), N, kx_up h b (kso S)) := by
  subst e
  exact fn_search hP hb hab hd
def svI (S : SU) (w : Int32) : Int32 := if w = 0 then S.2.1 else if ¬ w = 1 then S.2.2.2 else S.2.2.1
set_option maxRecDepth 20000 in
theorem x_served {G : kx_G} {d N x : Nat} {h : kx_H} {T : Nat → Int32} {L : Nat} {u : PU} {C : Nat} {Ac K : Nat → PU} {kf : Nat → Int32} {sd : Int64} {w : Int32} {S : SU} (hS9 : seU u (pOp u) (unbI u) = S) (hS : kS h x T L u C Ac K kf sd) (hw : ¬ w < 0 ∧ w ≤ 2) (hd : 20 ≤ d) : ∃ g, kx_Fn mX4_served d 0 0 G [.ref x, .int w] N h (some (.int (svI S w)), N, g) ∧ kS g x T L u C Ac K kf sd ∧ kFr h g x 121 := by
  obtain ⟨told, trial, F, B, s, f, hi, hf, hF, hC, hB, hL⟩ := id hS
  obtain ⟨s1, s2, s3, s4, s5, s6, s7, s8, s9, s10, s11⟩ := id hi
  have fr : kFr h (kx_up h (x + 121) (kso S)) x 121 := kFr.up (by omega)
  refine ⟨(kx_up h (x + 121) (kso S)), kx_Fn_of rfl (Nat.le_of_ble_eq_true rfl) rfl ?_ (kS_dom hS fr), ⟨told, trial, F, B, _, f, kSi_serv hi _, hf, hF, hC, hB, hL⟩, fr⟩
  · refine ko_iload_n (i := 1) dX4_served_0 rfl rfl ?_
    refine ko_if_lt (tgt := 9) dX4_served_1 (by decide) (fun c_1 => ?_) (fun c_1 => ?_)
    · exact absurd hw (by simp [c_1])
    · refine ko_iload_n (i := 1) dX4_served_4 rfl rfl ?_
      refine ko_iconst (v := 2) dX4_served_5 (by decide) ?_
      refine ko_icmp_le (tgt := 12) dX4_served_6 (by decide) (fun c_6 => ?_) (fun c_6 => ?_)
      · refine ko_aload_n (i := 0) dX4_served_12 rfl rfl ?_
        first | refine ko_get fl_X4_44 dX4_served_13 s1 rfl ?_ | refine ko_get fl_X4_44 dX4_served_13 ((ku_n (by omega)).trans s1) rfl ?_
        refine ko_aload_n (i := 0) dX4_served_16 rfl rfl ?_
        first | refine ko_get fl_X4_19 dX4_served_17 s1 rfl ?_ | refine ko_get fl_X4_19 dX4_served_17 ((ku_n (by omega)).trans s1) rfl ?_
        refine ko_aload_n (i := 0) dX4_served_20 rfl rfl ?_
        first | refine ko_get fl_X4_19 dX4_served_21 s1 rfl ?_ | refine ko_get fl_X4_19 dX4_served_21 ((ku_n (by omega)).trans s1) rfl ?_
        refine ko_get fl_X4_77 dX4_served_24 s5.1 rfl ?_
        refine ko_aload_n (i := 0) dX4_served_27 rfl rfl ?_
        first | refine ko_get fl_X4_19 dX4_served_28 s1 rfl ?_ | refine ko_get fl_X4_19 dX4_served_28 ((ku_n (by omega)).trans s1) rfl ?_
        refine ko_callVr lk_X4_152 dX4_served_31 (fn_unbereaved (d := d - 1) s5 (by omega)) rfl rfl s5.1 rfl rfl (by omega) (by omega) (by omega) (Nat.le_of_ble_eq_true rfl) ?_
        first | refine ko_callVr lk_X4_155 dX4_served_34 (fn_searchS (d := d - 1) s5 s11 (by omega) (by omega) hS9) rfl rfl s11 rfl rfl (by omega) (by omega) (by omega) (Nat.le_of_ble_eq_true rfl) ?_ | refine ko_callVr lk_X4_155 dX4_served_34 (fn_searchS (d := d - 1) s5 s11 (by omega) (by omega) hS9) rfl rfl ku_s rfl rfl (by omega) (by omega) (by omega) (Nat.le_of_ble_eq_true rfl) ?_
        refine ko_pop dX4_served_37 rfl ?_
        refine ko_iload_n (i := 1) dX4_served_38 rfl rfl ?_
        refine ko_if_ne (tgt := 50) dX4_served_39 (by decide) (fun c_39 => ?_) (fun c_39 => ?_)
        · refine ko_iload_n (i := 1) dX4_served_50 rfl rfl ?_
          refine ko_iconst (v := 1) dX4_served_51 (by decide) ?_
          refine ko_icmp_ne (tgt := 65) dX4_served_52 (by decide) (fun c_52 => ?_) (fun c_52 => ?_)
          · refine ko_aload_n (i := 0) dX4_served_65 rfl rfl ?_
            refine ko_get fl_X4_44 dX4_served_66 ((ku_n (by omega)).trans s1) rfl ?_
            first | refine ko_get fl_X4_164 dX4_served_69 s11 rfl ?_ | refine ko_get fl_X4_164 dX4_served_69 ku_s rfl ?_
            refine ko_iret dX4_served_72 rfl (Nat.le_of_ble_eq_true rfl) (Nat.le_of_ble_eq_true rfl) ?_
            simp [svI, c_1, c_6, c_39, c_52]
          · refine ko_aload_n (i := 0) dX4_served_55 rfl rfl ?_
            refine ko_get fl_X4_44 dX4_served_56 ((ku_n (by omega)).trans s1) rfl ?_
            first | refine ko_get fl_X4_162 dX4_served_59 s11 rfl ?_ | refine ko_get fl_X4_162 dX4_served_59 ku_s rfl ?_
            refine ko_goto (tgt := 72) dX4_served_62 (by decide) ?_
            refine ko_iret dX4_served_72 rfl (Nat.le_of_ble_eq_true rfl) (Nat.le_of_ble_eq_true rfl) ?_
            simp [svI, c_1, c_6, c_39, c_52]
        · refine ko_aload_n (i := 0) dX4_served_42 rfl rfl ?_
          refine ko_get fl_X4_44 dX4_served_43 ((ku_n (by omega)).trans s1) rfl ?_
          first | refine ko_get fl_X4_159 dX4_served_46 s11 rfl ?_ | refine ko_get fl_X4_159 dX4_served_46 ku_s rfl ?_
          refine ko_iret dX4_served_49 rfl (Nat.le_of_ble_eq_true rfl) (Nat.le_of_ble_eq_true rfl) ?_
          simp [svI, c_1, c_6, c_39]
      · exact absurd hw (by simp [c_1, c_6])
set_option maxRecDepth 20000 in
theorem x_served0 {G : kx_G} {d N x : Nat} {h : kx_H} {T : Nat → Int32} {L : Nat} {u : PU} {C : Nat} {Ac K : Nat → PU} {kf : Nat → Int32} {sd : Int64} {w : Int32} (hw : w < 0 ∨ ¬ w ≤ 2) (hS : kS h x T L u C Ac K kf sd) (hd : 20 ≤ d) : kx_Fn mX4_served d 0 0 G [.ref x, .int w] N h (some (.int (-2)), N, h) := by
  refine kx_Fn_of rfl (Nat.le_of_ble_eq_true rfl) rfl ?_ (kx_self)
  obtain ⟨told, trial, F, B, s, f, hi, hf, hF, hC, hB, hL⟩ := id hS
  obtain ⟨s1, s2, s3, s4, s5, s6, s7, s8, s9, s10, s11⟩ := id hi
  refine ko_iload_n (i := 1) dX4_served_0 rfl rfl ?_
  refine ko_if_lt (tgt := 9) dX4_served_1 (by decide) (fun c_1 => ?_) (fun c_1 => ?_)
  · refine ko_bipush (v := (-2)) dX4_served_9 (by decide) ?_
    refine ko_iret dX4_served_11 rfl (Nat.le_of_ble_eq_true rfl) (Nat.le_of_ble_eq_true rfl) ?_
    rfl
  · refine ko_iload_n (i := 1) dX4_served_4 rfl rfl ?_
    refine ko_iconst (v := 2) dX4_served_5 (by decide) ?_
    refine ko_icmp_le (tgt := 12) dX4_served_6 (by decide) (fun c_6 => ?_) (fun c_6 => ?_)
    · exact absurd hw (by simp [c_1, c_6])
    · refine ko_bipush (v := (-2)) dX4_served_9 (by decide) ?_
      refine ko_iret dX4_served_11 rfl (Nat.le_of_ble_eq_true rfl) (Nat.le_of_ble_eq_true rfl) ?_
      rfl
