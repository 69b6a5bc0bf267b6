/-! ===== the reference: who may, what changes on a page ===== -/
theorem or0 (x : Int32) : x ||| 0 = x := by simp
theorem mayI_ony {u : PU} {p q : Int32} (hh : hasI (pN u) p = true) : mayI u p q = (onyI u p q && !decide (ozI u p < 1)) := by
  unfold mayI onyI fitI
  rw [hh]
  cases hbI (pOp u) q <;> cases hbI (pOp u) p <;> cases arkI u p q <;> cases decide (ozI u p < 1) <;> rfl
theorem hasW {u : PU} {n i : Nat} (hw : WF u n) (hi : i < n) : hasI (pN u) (nI i) = true := by rw [hw.1]; exact hasT hw.2.1 hi
set_option maxRecDepth 20000 in
theorem fn_misFree {G : kx_G} {d N m n : Nat} {h : kx_H} {f : Nat → Int32} {u : PU} {t i j : Nat} (t0 : h t = some (ka 43 f)) (hp : pgR f u) (hw : WF u n) (hi : i < n) (hj : j < n) (hd : 1 ≤ d) : kx_Fn mX5_isFree d 0 0 G [.ref m, .ref t, .int (nI i), .int (nI j)] N h (some (.int (kb (onyI u (nI i) (nI j)))), N, h) := by
  refine kx_Fn_of rfl (Nat.le_of_ble_eq_true rfl) rfl ?_ (kx_self)
  obtain ⟨hn, hn5, hso, hag, hkd, hkn, hop, hon, hz⟩ := id hw
  obtain ⟨p1, p2, p3, p4, p5, p6, p7⟩ := id hp
  have hh := hasW hw hi
  have hh2 := hasW hw hj
  have ci : (nI i).toNatClampNeg = i := nI_clamp (by omega)
  have cj : (nI j).toNatClampNeg = j := nI_clamp (by omega)
  refine ko_aload_n (i := 1) dX5_isFree_0 rfl rfl ?_
  refine ko_bipush (v := 15) dX5_isFree_1 (by decide) ?_
  refine ko_iald dX5_isFree_3 t0 (in15 (i := 15) (by omega)) ?_
  refine ko_st (st' := [.int (f 15)]) rfl ?_
  rw [p4]
  refine ko_iload_n (i := 3) dX5_isFree_4 rfl rfl ?_
  refine ko_callSr lk_X5_63 dX5_isFree_5 (fn_mhas (by omega)) rfl rfl (by omega) (by omega) (by omega) (Nat.le_of_ble_eq_true rfl) ?_
  first | refine ko_ifb_eq (tgt := 39) dX5_isFree_8 (by decide) (fun c_8 => ?_) (fun c_8 => ?_) | refine ko_if_eq (tgt := 39) dX5_isFree_8 (by decide) (fun c_8 => ?_) (fun c_8 => ?_)
  · refine ko_iconst (v := 0) dX5_isFree_39 (by decide) ?_
    refine ko_zret dX5_isFree_40 rfl rfl (Nat.le_of_ble_eq_true rfl) (Nat.le_of_ble_eq_true rfl) ?_
    simp [onyI, arkI, hh, ci, kb, c_8]
  · refine ko_aload_n (i := 1) dX5_isFree_11 rfl rfl ?_
    refine ko_bipush (v := 10) dX5_isFree_12 (by decide) ?_
    refine ko_iload_n (i := 2) dX5_isFree_14 rfl rfl ?_
    refine ko_iadd dX5_isFree_15 ?_
    rw [a10]
    refine ko_iald dX5_isFree_16 t0 (in15 (by omega)) ?_
    rw [nI_clamp (by omega), p3 i (by omega)]
    refine ko_iload_n (i := 3) dX5_isFree_17 rfl rfl ?_
    refine ko_callSr lk_X5_63 dX5_isFree_18 (fn_mhas (by omega)) rfl rfl (by omega) (by omega) (by omega) (Nat.le_of_ble_eq_true rfl) ?_
    first | refine ko_ifb_ne (tgt := 39) dX5_isFree_21 (by decide) (fun c_21 => ?_) (fun c_21 => ?_) | refine ko_if_ne (tgt := 39) dX5_isFree_21 (by decide) (fun c_21 => ?_) (fun c_21 => ?_)
    · refine ko_iconst (v := 0) dX5_isFree_39 (by decide) ?_
      refine ko_zret dX5_isFree_40 rfl rfl (Nat.le_of_ble_eq_true rfl) (Nat.le_of_ble_eq_true rfl) ?_
      simp [onyI, arkI, hh, ci, kb, c_8, c_21]
    · refine ko_aload_n (i := 1) dX5_isFree_24 rfl rfl ?_
      refine ko_bipush (v := 15) dX5_isFree_25 (by decide) ?_
      refine ko_iald dX5_isFree_27 t0 (in15 (i := 15) (by omega)) ?_
      refine ko_st (st' := [.int (f 15)]) rfl ?_
      rw [p4]
      refine ko_iload_n (i := 2) dX5_isFree_28 rfl rfl ?_
      refine ko_callSr lk_X5_63 dX5_isFree_29 (fn_mhas (by omega)) rfl rfl (by omega) (by omega) (by omega) (Nat.le_of_ble_eq_true rfl) ?_
      first | refine ko_ifb_ne (tgt := 39) dX5_isFree_32 (by decide) (fun c_32 => ?_) (fun c_32 => ?_) | refine ko_if_ne (tgt := 39) dX5_isFree_32 (by decide) (fun c_32 => ?_) (fun c_32 => ?_)
      · refine ko_iconst (v := 0) dX5_isFree_39 (by decide) ?_
        refine ko_zret dX5_isFree_40 rfl rfl (Nat.le_of_ble_eq_true rfl) (Nat.le_of_ble_eq_true rfl) ?_
        simp [onyI, arkI, hh, ci, kb, c_8, c_21, c_32]
      · refine ko_iconst (v := 1) dX5_isFree_35 (by decide) ?_
        refine ko_goto (tgt := 40) dX5_isFree_36 (by decide) ?_
        refine ko_zret dX5_isFree_40 rfl rfl (Nat.le_of_ble_eq_true rfl) (Nat.le_of_ble_eq_true rfl) ?_
        simp [onyI, arkI, hh, ci, kb, c_8, c_21, c_32]
set_option maxRecDepth 20000 in
theorem fn_mmayWeep {G : kx_G} {d N m n : Nat} {h : kx_H} {o : MO} {Kf f : Nat → Int32} {u : PU} {t i j : Nat} (o0 : h m = some (kmo m o)) (k0 : h (m + 2) = some (ka 5 Kf)) (hk : ∀ j, j < n → Kf j = pKd u j) (t0 : h t = some (ka 43 f)) (hp : pgR f u) (hw : WF u n) (hi : i < n) (hj : j < n) (hd : 2 ≤ d) : kx_Fn mX5_mayWeep d 0 0 G [.ref m, .ref t, .int (nI i), .int (nI j)] N h (some (.int (kb (mayI u (nI i) (nI j)))), N, h) := by
  refine kx_Fn_of rfl (Nat.le_of_ble_eq_true rfl) rfl ?_ (kx_self)
  obtain ⟨hn, hn5, hso, hag, hkd, hkn, hop, hon, hz⟩ := id hw
  obtain ⟨p1, p2, p3, p4, p5, p6, p7⟩ := id hp
  have hh := hasW hw hi
  have hh2 := hasW hw hj
  have ci : (nI i).toNatClampNeg = i := nI_clamp (by omega)
  have cj : (nI j).toNatClampNeg = j := nI_clamp (by omega)
  refine ko_aload_n (i := 0) dX5_mayWeep_0 rfl rfl ?_
  refine ko_aload_n (i := 1) dX5_mayWeep_1 rfl rfl ?_
  refine ko_iload_n (i := 2) dX5_mayWeep_2 rfl rfl ?_
  refine ko_iload_n (i := 3) dX5_mayWeep_3 rfl rfl ?_
  refine ko_callVr lk_X5_93 dX5_mayWeep_4 (fn_misFree (d := d - 1) t0 hp hw hi hj (by omega)) rfl rfl o0 rfl rfl (by omega) (by omega) (by omega) (Nat.le_of_ble_eq_true rfl) ?_
  first | refine ko_ifb_eq (tgt := 23) dX5_mayWeep_7 (by decide) (fun c_7 => ?_) (fun c_7 => ?_) | refine ko_if_eq (tgt := 23) dX5_mayWeep_7 (by decide) (fun c_7 => ?_) (fun c_7 => ?_)
  · refine ko_iconst (v := 0) dX5_mayWeep_23 (by decide) ?_
    refine ko_zret dX5_mayWeep_24 rfl rfl (Nat.le_of_ble_eq_true rfl) (Nat.le_of_ble_eq_true rfl) ?_
    rw [mayI_ony hh]
    simp [kb, c_7]
  · refine ko_aload_n (i := 0) dX5_mayWeep_10 rfl rfl ?_
    refine ko_aload_n (i := 1) dX5_mayWeep_11 rfl rfl ?_
    refine ko_iload_n (i := 2) dX5_mayWeep_12 rfl rfl ?_
    refine ko_callVr lk_X5_97 dX5_mayWeep_13 (fn_mounces (d := d - 1) o0 k0 hk t0 hp hw hi) rfl rfl o0 rfl rfl (by omega) (by omega) (by omega) (Nat.le_of_ble_eq_true rfl) ?_
    refine ko_if_le (tgt := 23) dX5_mayWeep_16 (by decide) (fun c_16 => ?_) (fun c_16 => ?_)
    · rw [← lt1] at c_16
      refine ko_iconst (v := 0) dX5_mayWeep_23 (by decide) ?_
      refine ko_zret dX5_mayWeep_24 rfl rfl (Nat.le_of_ble_eq_true rfl) (Nat.le_of_ble_eq_true rfl) ?_
      rw [mayI_ony hh]
      simp [kb, c_7, c_16]
    · rw [← lt1] at c_16
      refine ko_iconst (v := 1) dX5_mayWeep_19 (by decide) ?_
      refine ko_goto (tgt := 24) dX5_mayWeep_20 (by decide) ?_
      refine ko_zret dX5_mayWeep_24 rfl rfl (Nat.le_of_ble_eq_true rfl) (Nat.le_of_ble_eq_true rfl) ?_
      rw [mayI_ony hh]
      simp [kb, c_7, c_16]
theorem hb_out {k j n : Nat} (hk : k < 2 ^ n) (hn : n ≤ 5) (hj : n ≤ j) (hj5 : j < 5) : hbI (nI k) (nI j) = false := by
  have h2 : k < 2 ^ j := Nat.lt_of_lt_of_le hk (Nat.pow_le_pow_right (by omega) hj)
  have h32 : k < 32 := Nat.lt_of_lt_of_le hk (Nat.pow_le_pow_right (n := 2) (by omega) hn)
  have key : ∀ j, j < 5 → ∀ k, k < 32 → k < 2 ^ j → hbI (nI k) (nI j) = false := by decide +kernel
  exact key j hj5 k h32 h2
theorem may_out {u : PU} {n j : Nat} {p : Int32} (hw : WF u n) (hj : n ≤ j) (hj5 : j < 5) : mayI u p (nI j) = false := by
  obtain ⟨k, hk, e⟩ := hw.2.2.2.2.2.2.1
  unfold mayI
  rw [e, hb_out hk hw.2.1 hj hj5]
  rfl
theorem tw_n {u : PU} {n : Nat} {p : Int32} (hw : WF u n) : ∀ i, n + i ≤ 5 → twI u p (n + i) = twI u p n
  | 0, _ => rfl
  | i + 1, h => by
    show (if mayI u p (nI (n + i)) = true then _ else twI u p (n + i)) = _
    rw [may_out hw (by omega) (by omega), if_neg (by decide)]
    exact tw_n hw i (by omega)
theorem tw_5 {u : PU} {n : Nat} {p : Int32} (hw : WF u n) : twI u p 5 = twI u p n := by
  have h5 := hw.2.1
  have e := tw_n (p := p) hw (5 - n) (by omega)
  rwa [show n + (5 - n) = 5 by omega] at e
set_option maxRecDepth 20000 in
theorem fn_mmayFor {G : kx_G} {d N m n : Nat} {h : kx_H} {o : MO} {Kf f : Nat → Int32} {u : PU} {i : Nat} (o0 : h m = some (kmo m o)) (hmn : mN o = nI n) (k0 : h (m + 2) = some (ka 5 Kf)) (hk : ∀ j, j < n → Kf j = pKd u j) (t0 : h (m + 5) = some (ka 43 f)) (hp : pgR f u) (hw : WF u n) (hi0 : i < n) (hd : 3 ≤ d) : kx_Fn mX5_mayFor d 0 0 G [.ref m, .int (nI i)] N h (some (.int (twI u (nI i) 5)), N, h) := by
  refine kx_Fn_of rfl (Nat.le_of_ble_eq_true rfl) rfl ?_ (kx_self)
  have hm5 := hw.2.1
  have LOOP : ∀ (k q : Nat), k + q = n → kx_Ok mX5_mayFor d 0 0 G 0 0 4 [(0, .ref m), (1, .int (nI i)), (2, .int (twI u (nI i) q)), (3, .int (nI q))] [] N h (some (.int (twI u (nI i) n)), N, h) := by
    intro k
    induction k with
    | zero =>
      intro q hi
      obtain rfl : n = q := by omega
      refine ko_iload_n (i := 3) dX5_mayFor_4 rfl rfl ?_
      refine ko_aload_n (i := 0) dX5_mayFor_5 rfl rfl ?_
      refine ko_get fl_X5_45 dX5_mayFor_6 o0 rfl ?_
      refine ko_icmp_ge (tgt := 41) dX5_mayFor_9 (by decide) (fun c_9 => ?_) (fun c_9 => ?_)
      · refine ko_iload_n (i := 2) dX5_mayFor_41 rfl rfl ?_
        refine ko_iret dX5_mayFor_42 rfl (Nat.le_of_ble_eq_true rfl) (Nat.le_of_ble_eq_true rfl) ?_
        rfl
      · exact absurd (show mN o ≤ nI n by rw [hmn]; exact nI_le (Nat.le_refl _) (by omega)) c_9
    | succ k ih =>
      intro q hi
      refine ko_iload_n (i := 3) dX5_mayFor_4 rfl rfl ?_
      refine ko_aload_n (i := 0) dX5_mayFor_5 rfl rfl ?_
      refine ko_get fl_X5_45 dX5_mayFor_6 o0 rfl ?_
      refine ko_icmp_ge (tgt := 41) dX5_mayFor_9 (by decide) (fun c_9 => ?_) (fun c_9 => ?_)
      · exact absurd (show nI n ≤ nI q from by rw [← hmn]; exact c_9) (nI_ge (by omega) (by omega))
      · refine ko_iload_n (i := 2) dX5_mayFor_12 rfl rfl ?_
        refine ko_aload_n (i := 0) dX5_mayFor_13 rfl rfl ?_
        refine ko_aload_n (i := 0) dX5_mayFor_14 rfl rfl ?_
        refine ko_get fl_X5_22 dX5_mayFor_15 o0 rfl ?_
        refine ko_iload_n (i := 1) dX5_mayFor_18 rfl rfl ?_
        refine ko_iload_n (i := 3) dX5_mayFor_19 rfl rfl ?_
        refine ko_callVr lk_X5_105 dX5_mayFor_20 (fn_mmayWeep (d := d - 1) o0 k0 hk t0 hp hw hi0 (show q < n by omega) (by omega)) rfl rfl o0 rfl rfl (by omega) (by omega) (by omega) (Nat.le_of_ble_eq_true rfl) ?_
        first | refine ko_ifb_eq (tgt := 32) dX5_mayFor_23 (by decide) (fun c_23 => ?_) (fun c_23 => ?_) | refine ko_if_eq (tgt := 32) dX5_mayFor_23 (by decide) (fun c_23 => ?_) (fun c_23 => ?_)
        · refine ko_iconst (v := 0) dX5_mayFor_32 (by decide) ?_
          refine ko_ior dX5_mayFor_33 ?_
          refine ko_istore_n (i := 2) (lv' := [(0, _), (1, _), (2, _), (3, _)]) dX5_mayFor_34 rfl (by decide) rfl rfl rfl ?_
          refine ko_inc1 (i := 3) (lv' := [(0, _), (1, _), (2, _), (3, _)]) dX5_mayFor_35 rfl (by decide) rfl rfl rfl ?_
          refine ko_goto (tgt := 4) dX5_mayFor_38 (by decide) ?_
          exact ko_lv (by simp [twI, nI_succ, c_9, c_23]) (ih (q + 1) (by omega))
        · refine ko_iconst (v := 1) dX5_mayFor_26 (by decide) ?_
          refine ko_iload_n (i := 3) dX5_mayFor_27 rfl rfl ?_
          refine ko_ishl dX5_mayFor_28 ?_
          refine ko_goto (tgt := 33) dX5_mayFor_29 (by decide) ?_
          refine ko_ior dX5_mayFor_33 ?_
          refine ko_istore_n (i := 2) (lv' := [(0, _), (1, _), (2, _), (3, _)]) dX5_mayFor_34 rfl (by decide) rfl rfl rfl ?_
          refine ko_inc1 (i := 3) (lv' := [(0, _), (1, _), (2, _), (3, _)]) dX5_mayFor_35 rfl (by decide) rfl rfl rfl ?_
          refine ko_goto (tgt := 4) dX5_mayFor_38 (by decide) ?_
          exact ko_lv (by simp [twI, nI_succ, c_9, c_23]) (ih (q + 1) (by omega))
  refine ko_iconst (v := 0) dX5_mayFor_0 (by decide) ?_
  refine ko_istore_n (i := 2) (lv' := [(0, _), (1, _), (2, _)]) dX5_mayFor_1 rfl (by decide) rfl rfl rfl ?_
  refine ko_iconst (v := 0) dX5_mayFor_2 (by decide) ?_
  refine ko_istore_n (i := 3) (lv' := [(0, _), (1, _), (2, _), (3, _)]) dX5_mayFor_3 rfl (by decide) rfl rfl rfl ?_
  rw [tw_5 hw]
  exact LOOP n 0 (by omega)
def opF (f : Nat → Int32) (i : Nat) : Nat → Int32 := upd (upd (upd f i 9) (5 + i) 0) 15 (upd (upd f i 9) (5 + i) 0 15 ||| 1 <<< (nI i &&& 31))
theorem opF_R {f : Nat → Int32} {u : PU} {n i : Nat} (hp : pgR f u) (hw : WF u n) (hi : i < n) (ho : hbI (pOp u) (nI i) = false) : pgR (opF f i) (brU u (nI i)) := by
  obtain ⟨p1, p2, p3, p4, p5, p6, p7⟩ := hp
  have hn5 := hw.2.1
  have ci : (nI i).toNatClampNeg = i := nI_clamp (by omega)
  have e : brU u (nI i) = (upd (pSo u) i 9, upd (pAg u) i 0, u.2.2.1, u.2.2.2.1, u.2.2.2.2.1, u.2.2.2.2.2.1, pOp u ||| 1 <<< (nI i &&& 31), u.2.2.2.2.2.2.2) := by
    unfold brU
    rw [if_pos (hasW hw hi), if_neg (by rw [ho]; decide), ci]
  rw [e]
  unfold opF
  refine ⟨fun j hj => ?_, fun j hj => ?_, fun j hj => ?_, ?_, fun j hj => ?_, ?_, ?_⟩
  · show _ = upd (pSo u) i 9 j
    rw [pk_un (by omega), pk_un (by omega)]
    by_cases h1 : j = i
    · subst h1; rw [pk_us, pk_us]
    · rw [pk_un h1, pk_un h1]; exact p1 j hj
  · show _ = upd (pAg u) i 0 j
    rw [pk_un (by omega)]
    by_cases h1 : j = i
    · subst h1; rw [pk_us, pk_us]
    · rw [pk_un (by omega), pk_un (by omega), pk_un h1]; exact p2 j hj
  · rw [pk_un (by omega), pk_un (by omega), pk_un (by omega)]; exact p3 j hj
  · rw [pk_us, pk_un (by omega), pk_un (by omega), p4]
  · rw [pk_un (by omega), pk_un (by omega), pk_un (by omega)]; exact p5 j hj
  · rw [pk_un (by omega), pk_un (by omega), pk_un (by omega)]; exact p6
  · rw [pk_un (by omega), pk_un (by omega), pk_un (by omega)]; exact p7
set_option maxRecDepth 20000 in
theorem fn_mopen {G : kx_G} {d N m : Nat} {h : kx_H} {f : Nat → Int32} {t i : Nat} (hi : i < 5) (t0 : h t = some (ka 43 f)) : kx_Fn mX5_open d 0 0 G [.ref m, .ref t, .int (nI i)] N h (none, N, kx_up h t (ka 43 (opF f i))) := by
  refine kx_Fn_of rfl (Nat.le_of_ble_eq_true rfl) rfl ?_ (ku_dom t0)
  refine ko_h (ku_same t0).symm ?_
  refine ko_aload_n (i := 1) dX5_open_0 rfl rfl ?_
  refine ko_iconst (v := 0) dX5_open_1 (by decide) ?_
  refine ko_iload_n (i := 2) dX5_open_2 rfl rfl ?_
  refine ko_iadd dX5_open_3 ?_
  rw [a0]
  refine ko_bipush (v := 9) dX5_open_4 (by decide) ?_
  refine ko_iast dX5_open_6 ku_s (in15 (by omega)) ?_
  rw [nI_clamp (by omega)]
  refine ko_h (ku_ku _ _ _ _) ?_
  refine ko_aload_n (i := 1) dX5_open_7 rfl rfl ?_
  refine ko_iconst (v := 5) dX5_open_8 (by decide) ?_
  refine ko_iload_n (i := 2) dX5_open_9 rfl rfl ?_
  refine ko_iadd dX5_open_10 ?_
  rw [a5]
  refine ko_iconst (v := 0) dX5_open_11 (by decide) ?_
  refine ko_iast dX5_open_12 ku_s (in15 (by omega)) ?_
  rw [nI_clamp (by omega)]
  refine ko_h (ku_ku _ _ _ _) ?_
  refine ko_aload_n (i := 1) dX5_open_13 rfl rfl ?_
  refine ko_bipush (v := 15) dX5_open_14 (by decide) ?_
  refine ko_dup2 dX5_open_16 rfl rfl ?_
  refine ko_iald dX5_open_17 ku_s (in15 (i := 15) (by omega)) ?_
  refine ko_iconst (v := 1) dX5_open_18 (by decide) ?_
  refine ko_iload_n (i := 2) dX5_open_19 rfl rfl ?_
  refine ko_ishl dX5_open_20 ?_
  refine ko_ior dX5_open_21 ?_
  refine ko_iast dX5_open_22 ku_s (in15 (i := 15) (by omega)) ?_
  refine ko_h (ku_ku _ _ _ _) ?_
  refine ko_vret dX5_open_23 rfl (Nat.le_of_ble_eq_true rfl) (Nat.le_of_ble_eq_true rfl) ?_
  rfl
def clF (f : Nat → Int32) (i j : Nat) : Nat → Int32 :=
  upd (upd (upd (upd f (10 + i) (f (10 + i) ||| 1 <<< (nI j &&& 31))) (10 + j) (upd f (10 + i) (f (10 + i) ||| 1 <<< (nI j &&& 31)) (10 + j) ||| 1 <<< (nI i &&& 31))) (16 + 5 * j + i) (upd (upd f (10 + i) (f (10 + i) ||| 1 <<< (nI j &&& 31))) (10 + j) (upd f (10 + i) (f (10 + i) ||| 1 <<< (nI j &&& 31)) (10 + j) ||| 1 <<< (nI i &&& 31)) (16 + 5 * j + i) + 1)) 15
    (upd (upd (upd f (10 + i) (f (10 + i) ||| 1 <<< (nI j &&& 31))) (10 + j) (upd f (10 + i) (f (10 + i) ||| 1 <<< (nI j &&& 31)) (10 + j) ||| 1 <<< (nI i &&& 31))) (16 + 5 * j + i) (upd (upd f (10 + i) (f (10 + i) ||| 1 <<< (nI j &&& 31))) (10 + j) (upd f (10 + i) (f (10 + i) ||| 1 <<< (nI j &&& 31)) (10 + j) ||| 1 <<< (nI i &&& 31)) (16 + 5 * j + i) + 1) 15 &&& (1 <<< (nI j &&& 31) ^^^ (-1)))
theorem a16 (i j : Nat) : (16 : Int32) + 5 * nI j + nI i = nI (16 + 5 * j + i) := by
  rw [show (5 : Int32) * nI j = nI (5 * j) from pk_mul 5 j, show (16 : Int32) + nI (5 * j) = nI (16 + 5 * j) from nI_add 16 (5 * j), nI_add]
set_option maxRecDepth 20000 in
theorem fn_mclose {G : kx_G} {d N m : Nat} {h : kx_H} {f : Nat → Int32} {t i j : Nat} (hi : i < 5) (hj : j < 5) (t0 : h t = some (ka 43 f)) : kx_Fn mX5_close d 0 0 G [.ref m, .ref t, .int (nI i), .int (nI j)] N h (none, N, kx_up h t (ka 43 (clF f i j))) := by
  refine kx_Fn_of rfl (Nat.le_of_ble_eq_true rfl) rfl ?_ (ku_dom t0)
  refine ko_h (ku_same t0).symm ?_
  refine ko_aload_n (i := 1) dX5_close_0 rfl rfl ?_
  refine ko_bipush (v := 10) dX5_close_1 (by decide) ?_
  refine ko_iload_n (i := 2) dX5_close_3 rfl rfl ?_
  refine ko_iadd dX5_close_4 ?_
  rw [a10]
  refine ko_dup2 dX5_close_5 rfl rfl ?_
  refine ko_iald dX5_close_6 ku_s (in15 (by omega)) ?_
  rw [nI_clamp (by omega)]
  refine ko_iconst (v := 1) dX5_close_7 (by decide) ?_
  refine ko_iload_n (i := 3) dX5_close_8 rfl rfl ?_
  refine ko_ishl dX5_close_9 ?_
  refine ko_ior dX5_close_10 ?_
  refine ko_iast dX5_close_11 ku_s (in15 (by omega)) ?_
  rw [nI_clamp (by omega)]
  refine ko_h (ku_ku _ _ _ _) ?_
  refine ko_aload_n (i := 1) dX5_close_12 rfl rfl ?_
  refine ko_bipush (v := 10) dX5_close_13 (by decide) ?_
  refine ko_iload_n (i := 3) dX5_close_15 rfl rfl ?_
  refine ko_iadd dX5_close_16 ?_
  rw [a10]
  refine ko_dup2 dX5_close_17 rfl rfl ?_
  refine ko_iald dX5_close_18 ku_s (in15 (by omega)) ?_
  rw [nI_clamp (by omega)]
  refine ko_iconst (v := 1) dX5_close_19 (by decide) ?_
  refine ko_iload_n (i := 2) dX5_close_20 rfl rfl ?_
  refine ko_ishl dX5_close_21 ?_
  refine ko_ior dX5_close_22 ?_
  refine ko_iast dX5_close_23 ku_s (in15 (by omega)) ?_
  rw [nI_clamp (by omega)]
  refine ko_h (ku_ku _ _ _ _) ?_
  refine ko_aload_n (i := 1) dX5_close_24 rfl rfl ?_
  refine ko_bipush (v := 16) dX5_close_25 (by decide) ?_
  refine ko_iconst (v := 5) dX5_close_27 (by decide) ?_
  refine ko_iload_n (i := 3) dX5_close_28 rfl rfl ?_
  refine ko_imul dX5_close_29 ?_
  refine ko_iadd dX5_close_30 ?_
  refine ko_iload_n (i := 2) dX5_close_31 rfl rfl ?_
  refine ko_iadd dX5_close_32 ?_
  rw [a16]
  refine ko_dup2 dX5_close_33 rfl rfl ?_
  refine ko_iald dX5_close_34 ku_s (in15 (by omega)) ?_
  rw [nI_clamp (by omega)]
  refine ko_iconst (v := 1) dX5_close_35 (by decide) ?_
  refine ko_iadd dX5_close_36 ?_
  refine ko_iast dX5_close_37 ku_s (in15 (by omega)) ?_
  rw [nI_clamp (by omega)]
  refine ko_h (ku_ku _ _ _ _) ?_
  refine ko_aload_n (i := 1) dX5_close_38 rfl rfl ?_
  refine ko_bipush (v := 15) dX5_close_39 (by decide) ?_
  refine ko_dup2 dX5_close_41 rfl rfl ?_
  refine ko_iald dX5_close_42 ku_s (in15 (i := 15) (by omega)) ?_
  refine ko_iconst (v := 1) dX5_close_43 (by decide) ?_
  refine ko_iload_n (i := 3) dX5_close_44 rfl rfl ?_
  refine ko_ishl dX5_close_45 ?_
  refine ko_iconst (v := (-1)) dX5_close_46 (by decide) ?_
  refine ko_ixor dX5_close_47 ?_
  refine ko_iand dX5_close_48 ?_
  refine ko_iast dX5_close_49 ku_s (in15 (i := 15) (by omega)) ?_
  refine ko_h (ku_ku _ _ _ _) ?_
  refine ko_vret dX5_close_50 rfl (Nat.le_of_ble_eq_true rfl) (Nat.le_of_ble_eq_true rfl) ?_
  rfl
theorem clF_R {f : Nat → Int32} {u : PU} {n i j : Nat} (hp : pgR f u) (hw : WF u n) (hi : i < n) (hj : j < n) : pgR (clF f i j) (stU u (nI i) (nI j)) := by
  obtain ⟨p1, p2, p3, p4, p5, p6, p7⟩ := hp
  have hn5 := hw.2.1
  have ci : (nI i).toNatClampNeg = i := nI_clamp (by omega)
  have cj : (nI j).toNatClampNeg = j := nI_clamp (by omega)
  have cq : (nI j * 5 + nI i).toNatClampNeg = j * 5 + i := by rw [(in25 (hasW hw hj) (hasW hw hi)).2, ci, cj]
  have e : stU u (nI i) (nI j) = stV (mkU u (nI i) (nI j)) (nI i) (nI j) := by
    unfold stU
    rw [if_pos (hasW hw hi), if_pos (hasW hw hj)]
  have em : mkU u (nI i) (nI j) = (u.1, u.2.1, u.2.2.1, upd (upd (pKn u) i (pKn u i ||| 1 <<< (nI j &&& 31))) j ((upd (pKn u) i (pKn u i ||| 1 <<< (nI j &&& 31))) j ||| 1 <<< (nI i &&& 31)), u.2.2.2.2) := by
    unfold mkU
    rw [if_pos (hasW hw hi), if_pos (hasW hw hj), ci, cj]
  rw [e, em]
  unfold stV
  rw [cq]
  unfold clF
  have q3 : f (10 + i) = pKn u i := p3 i (by omega)
  refine ⟨fun k hk => ?_, fun k hk => ?_, fun k hk => ?_, ?_, fun k hk => ?_, ?_, ?_⟩
  · rw [pk_un (by omega), pk_un (by omega), pk_un (by omega), pk_un (by omega)]; exact p1 k hk
  · rw [pk_un (by omega), pk_un (by omega), pk_un (by omega), pk_un (by omega)]; exact p2 k hk
  · show _ = upd (upd (pKn u) i (pKn u i ||| 1 <<< (nI j &&& 31))) j ((upd (pKn u) i (pKn u i ||| 1 <<< (nI j &&& 31))) j ||| 1 <<< (nI i &&& 31)) k
    rw [pk_un (by omega), pk_un (by omega), q3]
    have inner : ∀ k, k < 5 → upd f (10 + i) (pKn u i ||| 1 <<< (nI j &&& 31)) (10 + k) = upd (pKn u) i (pKn u i ||| 1 <<< (nI j &&& 31)) k := fun k hk => by
      by_cases h1 : k = i
      · subst h1; rw [pk_us, pk_us]
      · rw [pk_un (by omega), pk_un h1]; exact p3 k hk
    rw [inner j (by omega)]
    by_cases h1 : k = j
    · subst h1; rw [pk_us, pk_us]
    · rw [pk_un (by omega), pk_un h1]; exact inner k hk
  · rw [pk_us, pk_un (by omega), pk_un (by omega), pk_un (by omega), p4]
  · show _ = upd (pOw u) (j * 5 + i) (pOw u (j * 5 + i) + 1) k
    rw [pk_un (by omega)]
    have e16 : upd (upd f (10 + i) (f (10 + i) ||| 1 <<< (nI j &&& 31))) (10 + j) (upd f (10 + i) (f (10 + i) ||| 1 <<< (nI j &&& 31)) (10 + j) ||| 1 <<< (nI i &&& 31)) (16 + 5 * j + i) = pOw u (j * 5 + i) := by
      rw [pk_un (by omega), pk_un (by omega), show 16 + 5 * j + i = 16 + (j * 5 + i) by omega]
      exact p5 _ (by omega)
    rw [e16]
    by_cases h1 : k = j * 5 + i
    · subst h1
      rw [show 16 + 5 * j + i = 16 + (j * 5 + i) by omega, pk_us, pk_us]
    · rw [pk_un (by omega), pk_un (by omega), pk_un (by omega), pk_un h1]; exact p5 k hk
  · rw [pk_un (by omega), pk_un (by omega), pk_un (by omega), pk_un (by omega)]; exact p6
  · rw [pk_un (by omega), pk_un (by omega), pk_un (by omega), pk_un (by omega)]; exact p7
def gpF (f : Nat → Int32) (i j : Nat) (z : Int32) : Nat → Int32 := clF (upd f i (f i - z)) i j
set_option maxRecDepth 20000 in
theorem fn_mgoWeep {G : kx_G} {d N m n : Nat} {h : kx_H} {o : MO} {f : Nat → Int32} {t i j : Nat} {Kf : Nat → Int32} {u : PU} (o0 : h m = some (kmo m o)) (k0 : h (m + 2) = some (ka 5 Kf)) (hk : ∀ j, j < n → Kf j = pKd u j) (hp : pgR f u) (hw : WF u n) (hi : i < n) (hj : j < n) (htk0 : m + 2 ≠ t) (hd : 2 ≤ d) (t0 : h t = some (ka 43 f)) : kx_Fn mX5_goWeep d 0 0 G [.ref m, .ref t, .int (nI i), .int (nI j)] N h (some (.int (ozI u (nI i))), N, kx_up h t (ka 43 (gpF f i j (ozI u (nI i))))) := by
  refine kx_Fn_of rfl (Nat.le_of_ble_eq_true rfl) rfl ?_ (ku_dom t0)
  refine ko_h (ku_same t0).symm ?_
  have hn5 := hw.2.1
  have htm : m ≠ t := fun z => by rw [z, t0] at o0; cases o0
  have htk : m + 2 ≠ t := htk0
  refine ko_aload_n (i := 0) dX5_goWeep_0 rfl rfl ?_
  refine ko_aload_n (i := 1) dX5_goWeep_1 rfl rfl ?_
  refine ko_iload_n (i := 2) dX5_goWeep_2 rfl rfl ?_
  refine ko_callVr lk_X5_97 dX5_goWeep_3 (fn_mounces (d := d - 1) ((ku_n (fun z => htm z)).trans o0) ((ku_n htk).trans k0) hk ku_s hp hw hi) rfl rfl ((ku_n htm).trans o0) rfl rfl (by omega) (by omega) (by omega) (Nat.le_of_ble_eq_true rfl) ?_
  refine ko_istore (i := 4) (lv' := [(0, _), (1, _), (2, _), (3, _), (4, _)]) dX5_goWeep_6 (by decide) rfl rfl rfl ?_
  refine ko_aload_n (i := 1) dX5_goWeep_8 rfl rfl ?_
  refine ko_iconst (v := 0) dX5_goWeep_9 (by decide) ?_
  refine ko_iload_n (i := 2) dX5_goWeep_10 rfl rfl ?_
  refine ko_iadd dX5_goWeep_11 ?_
  rw [a0]
  refine ko_dup2 dX5_goWeep_12 rfl rfl ?_
  refine ko_iald dX5_goWeep_13 ku_s (in15 (by omega)) ?_
  rw [nI_clamp (by omega)]
  refine ko_iload (i := 4) dX5_goWeep_14 rfl ?_
  refine ko_isub dX5_goWeep_16 ?_
  refine ko_iast dX5_goWeep_17 ku_s (in15 (by omega)) ?_
  rw [nI_clamp (by omega)]
  refine ko_h (ku_ku _ _ _ _) ?_
  refine ko_aload_n (i := 0) dX5_goWeep_18 rfl rfl ?_
  refine ko_aload_n (i := 1) dX5_goWeep_19 rfl rfl ?_
  refine ko_iload_n (i := 2) dX5_goWeep_20 rfl rfl ?_
  refine ko_iload_n (i := 3) dX5_goWeep_21 rfl rfl ?_
  refine ko_callVv lk_X5_101 dX5_goWeep_22 (fn_mclose (d := d - 1) (by omega) (by omega) ku_s) rfl rfl ((ku_n htm).trans o0) rfl rfl (by omega) (by omega) (by omega) (Nat.le_of_ble_eq_true rfl) ?_
  refine ko_h (ku_ku _ _ _ _) ?_
  refine ko_iload (i := 4) dX5_goWeep_25 rfl ?_
  refine ko_iret dX5_goWeep_27 rfl (Nat.le_of_ble_eq_true rfl) (Nat.le_of_ble_eq_true rfl) ?_
  rfl
